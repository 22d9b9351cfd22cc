/** Section 7, and promises 16 to 26, 44 and 45: runs, breaks, watches, HISTORY and CALLS. */
public final class DebuggerTest {
  private static String where(FerriteBoard board) {
    return board.stopped() + " " + board.pc() + " " + board.cycles();
  }

  private static void runs() {
    FerriteBoard board = Check.ready("a: NOP\nBRA a");
    Check.is("run", board.run(1) + " " + where(board), "1 1 3073 1");
    Check.is("or more", board.run(1) + " " + where(board), "3 1 3072 4");
    Check.is("run on", board.run(5000) + " " + where(board), "5000 1 3072 5004");
    Check.is("run 2", board.run(2) + " " + where(board), "4 1 3072 5008");
    Check.refusedBy(board, "run", "IllegalArgumentException", () -> board.run(0));
    Check.refusedBy(board, "run", "IllegalArgumentException", () -> board.run(-5));
    Check.refusedBy(board, "run", "IllegalArgumentException", () -> board.run(5001));
    FerriteBoard halts = Check.ready("NOP\nHLT");
    Check.is("HLT with the last cycle", halts.run(2) + " " + where(halts), "2 4 3074 2");
    Check.is("HALTED", halts.run(5) + " " + where(halts), "0 4 3074 2");
    halts.reset();
    Check.is("reset", halts.stopped() + " " + halts.state(), "0 0");
    FerriteBoard breaks = Check.ready(".byte 255");
    Check.is("BROKEN", breaks.run(5) + " " + where(breaks), "1 5 3072 1");
    Check.is("BROKEN again", breaks.run(5) + " " + where(breaks), "0 5 3072 1");
    FerriteBoard waits = Check.ready("WAI");
    Check.is("WAITING", waits.run(5000) + " " + waits.stopped() + " " + waits.history(), "5000 1 200");
  }

  private static void breaks() {
    FerriteBoard board = Check.ready("a: NOP\nINX\nBRA a");
    Check.is("setBreak", board.setBreak(3073, 0) + " " + board.setBreak(3072, 2) + " " + board.setBreak(3073, 0), "1 2 2");
    Check.is("first", board.run(100) + " " + where(board), "1 2 3073 1");
    Check.is("not where it begins", board.run(100) + " " + where(board), "5 2 3073 6");
    board.setBreak(3072, 2);
    Check.is("clearBreak", board.clearBreak(3073) + " " + board.clearBreak(3073) + " " + board.clearBreak(-1) + " " + board.clearBreak(4096), "0 -1 -1 -1");
    Check.is("SKIPS", board.run(100) + " " + where(board), "14 2 3072 20");
    Check.is("SKIPS are gone", board.clearBreak(3072), 0);
    board.setBreak(3073, 5);
    Check.is("cycles are first", board.run(1) + " " + board.stopped() + " " + board.clearBreak(3073), "1 1 5");
    board.setBreak(3074, 5);
    board.step();
    Check.is("step does not look", board.clearBreak(3074), 5);
    for (int i = 0; i < 6; i++) Check.is("setBreak", board.setBreak(4090 + i, 1000 - i), i + 1);
    Check.refusedBy(board, "setBreak", "IllegalStateException", () -> board.setBreak(0, 0));
    Check.is("there already", board.setBreak(4092, 3), 6);
    Check.refusedBy(board, "setBreak", "IllegalArgumentException", () -> board.setBreak(-1, 0));
    Check.refusedBy(board, "setBreak", "IllegalArgumentException", () -> board.setBreak(4096, 0));
    Check.refusedBy(board, "setBreak", "IllegalArgumentException", () -> board.setBreak(1, -1));
    Check.refusedBy(board, "setBreak", "IllegalArgumentException", () -> board.setBreak(1, 1001));
    Check.is("in any order", board.clearBreak(4090) + " " + board.clearBreak(4095) + " " + board.clearBreak(4092) + " " + board.setBreak(4090, 7), "1000 995 3 4");
    Check.is("the others", board.clearBreak(4091) + " " + board.clearBreak(4093) + " " + board.clearBreak(4094) + " " + board.clearBreak(4090), "999 997 996 7");
    FerriteBoard vector = Check.ready("LDA #4\nSTA 1793\nCLI\nNOP\nNOP\n.org 4080\n.word 0,0,0,0,700");
    vector.step();
    vector.step();
    vector.signal();
    vector.setBreak(3078, 0);
    vector.setBreak(700, 0);
    Check.is("not ahead of a vector", vector.run(100) + " " + where(vector), "6 2 700 12");
    FerriteBoard nmi = Check.ready("NOP\n.org 4080\n.word 0,700");
    nmi.nmi();
    nmi.setBreak(3072, 0);
    nmi.setBreak(700, 0);
    Check.is("NMI", nmi.run(100) + " " + where(nmi), "5 2 700 5");
    FerriteBoard waits = Check.ready("WAI\nNOP");
    waits.setBreak(3073, 0);
    Check.is("not WAITING", waits.run(10) + " " + waits.stopped() + " " + waits.clearBreak(3073), "10 1 0");
  }

  private static int watched(String text, int from, int to, boolean onRead, boolean onWrite) {
    FerriteBoard board = Check.ready(text + "\nNOP\nNOP\nNOP");
    board.setWatch(from, to, onRead, onWrite);
    board.run(40);
    return board.stopped() == 3 ? board.instructions() : -board.stopped();
  }

  private static void watches() {
    Check.is("write", watched("LDA 9\nSTA 9", 9, 9, false, true), 2);
    Check.is("read", watched("STA 9\nLDA 9", 9, 9, true, false), 2);
    Check.is("both", watched("STA 9\nLDA 9", 9, 9, true, true), 1);
    Check.is("neither", watched("STA 9\nLDA 9", 9, 9, false, false), -1);
    Check.is("outside", watched("STA 9\nLDA 11", 10, 10, true, true), -1);
    Check.is("a row", watched("STA 9\nLDA 11", 10, 20, true, true), 2);
    Check.is("in vain", watched("STA 4000", 4000, 4000, false, true), 1);
    Check.is("a port", watched("NOP\nSTA 1800", 1800, 1800, false, true), 2);
    Check.is("the stack", watched("NOP\nPHA", 511, 511, false, true), 2);
    Check.is("pulled", watched("PHA\nPLA", 511, 511, true, false), 2);
    Check.is("the word of mode 5", watched("NOP\nLDA (255)", 0, 0, true, false), 2);
    Check.is("not the instruction itself", watched("LDA #5\nLDA 9", 3072, 3079, true, false), -1);
    Check.is("nor the word of JMP", watched("JMP a\na: NOP", 3073, 3074, true, true), -1);
    Check.is("VECTOR of BRK", watched("NOP\nBRK", 4093, 4093, true, false), 2);
    Check.is("not the copier", watched("LDX #3\nSTX 1806", 0, 3, true, true), -1);
    Check.is("INC writes", watched("INC 5", 5, 5, false, true), 1);
    Check.is("STA reads nothing", watched("STA 5", 5, 5, true, false), -1);
    Check.is("JMP reads nothing", watched("JMP (8)", 0, 7, true, true), -1);
    FerriteBoard board = Check.ready("NOP\nNOP");
    board.nmi();
    board.setWatch(4083, 4083, true, false);
    Check.is("VECTOR of an NMI", board.run(100) + " " + board.stopped(), "5 3");
    for (int at = 4080; at < 4096; at++) {
      FerriteBoard nmi = Check.ready("NOP\nNOP");
      nmi.nmi();
      nmi.setWatch(at, at, true, false);
      nmi.run(5);
      Check.is("of VECTOR 1 alone " + at, nmi.stopped(), at / 2 == 2041 ? 3 : 1);
      FerriteBoard brk = Check.ready("BRK");
      brk.setWatch(at, at, true, false);
      brk.run(6);
      Check.is("of VECTOR 6 alone " + at, brk.stopped(), at / 2 == 2046 ? 3 : 1);
    }
    Check.is("address 0 is read", watched("LDA 0", 0, 0, true, false), 1);
    Check.is("address 0 is written", watched("STA 0", 0, 0, false, true), 1);
    Check.is("not written", watched("STA 0", 0, 0, true, false), -1);
    Check.is("not read", watched("LDA 0", 0, 0, false, true), -1);
    FerriteBoard first = Check.ready("STA 9\nHLT\n");
    first.setWatch(9, 9, false, true);
    first.setBreak(3074, 1);
    Check.is("ahead of cycles and breaks", first.run(1) + " " + first.stopped() + " " + first.clearBreak(3074), "3 3 1");
    FerriteBoard last = Check.ready("JSR a\na: HLT");
    Check.is("setWatch", last.setWatch(0, 0, true, true) + " " + last.setWatch(4095, 4095, true, true) + " " + last.setWatch(0, 4095, false, false)
        + " " + last.setWatch(0, 4095, false, false), "1 2 3 4");
    Check.refusedBy(last, "setWatch", "IllegalStateException", () -> last.setWatch(0, 0, true, true));
    Check.refusedBy(last, "setWatch", "IllegalArgumentException", () -> last.setWatch(-1, 0, true, true));
    Check.refusedBy(last, "setWatch", "IllegalArgumentException", () -> last.setWatch(0, 4096, true, true));
    Check.refusedBy(last, "setWatch", "IllegalArgumentException", () -> last.setWatch(4096, 4097, true, true));
    Check.refusedBy(last, "setWatch", "IllegalArgumentException", () -> last.setWatch(5, 4, true, true));
    Check.is("clearWatches", last.clearWatches() + " " + last.clearWatches(), "4 0");
    Check.refusedBy(last, "setWatch", "IllegalArgumentException", () -> last.setWatch(5, -1, true, true));
  }

  private static void over() {
    String text = "JSR a\nNOP\nBSR b\nHLT\na: BSR b\nINX\nRTS\nb: NOP\nRTS\n";
    FerriteBoard board = Check.ready(text);
    Check.is("over JSR", board.stepOver() + " " + where(board) + " " + board.calls() + " " + board.x(), "18 6 3075 18 0 1");
    Check.is("a step", board.stepOver() + " " + where(board), "1 6 3076 19");
    Check.is("over BSR", board.stepOver() + " " + where(board), "9 6 3078 28");
    Check.is("HLT", board.stepOver() + " " + where(board), "1 4 3079 29");
    Check.is("HALTED", board.stepOver() + " " + where(board), "0 4 3079 29");
    board.reset();
    board.setRegister(4, 3072);
    board.setBreak(3083, 0);
    Check.is("a break in it", board.stepOver() + " " + where(board), "10 2 3083 10");
    FerriteBoard watch = Check.ready(text);
    watch.setWatch(508, 508, false, true);
    Check.is("a watch in it", watch.stepOver() + " " + where(watch), "10 3 3083 10");
    FerriteBoard end = Check.ready("JSR a\na: HLT");
    Check.is("HLT in it", end.stepOver() + " " + end.stopped(), "6 4");
    FerriteBoard broken = Check.ready(".byte 255");
    Check.is("BROKEN", broken.stepOver() + " " + broken.stopped(), "1 5");
    FerriteBoard ever = Check.ready("JSR a\na: BRA a");
    Check.is("5000 cycles", ever.stepOver() + " " + ever.stopped(), "5000 1");
    FerriteBoard vector = Check.ready("JSR a\nHLT\na: RTS\n.org 4080\n.word 0,3079");
    vector.nmi();
    Check.is("a vector first", vector.stepOver() + " " + where(vector), "5 6 3079 5");
    FerriteBoard same = Check.ready("JSR a\na: RTI");
    Check.is("fewer CALLS", same.stepOver() + " " + same.stopped() + " " + same.calls(), "9 6 0");
    FerriteBoard brk = Check.ready("BRK\nNOP\n.org 4092\n.word 700");
    Check.is("BRK is a step", brk.stepOver() + " " + where(brk), "6 6 700 6");
  }

  private static void out() {
    FerriteBoard board = Check.ready("JSR a\nHLT\na: JSR b\nINX\nRTS\nb: NOP\nRTS");
    board.step();
    board.step();
    Check.is("out of b", board.stepOut() + " " + where(board) + " " + board.calls(), "4 6 3079 14 1");
    Check.is("out of a", board.stepOut() + " " + where(board), "4 6 3075 18");
    Check.is("out of all", board.stepOut() + " " + where(board), "1 4 3076 19");
    Check.is("HALTED", board.stepOut() + " " + where(board), "0 4 3076 19");
    FerriteBoard ever = Check.ready("a: BRA a");
    Check.is("5000 cycles", ever.stepOut() + " " + ever.stopped(), "5001 1");
    FerriteBoard stop = Check.ready("JSR a\na: NOP\nNOP\nRTS");
    stop.step();
    stop.setBreak(3077, 0);
    Check.is("a break", stop.stepOut() + " " + where(stop), "2 2 3077 7");
    stop.setWatch(511, 511, true, false);
    Check.is("ahead of a watch", stop.stepOut() + " " + where(stop), "3 6 3075 10");
    FerriteBoard halt = Check.ready("JSR a\na: HLT");
    halt.step();
    Check.is("HLT", halt.stepOut() + " " + halt.stopped(), "1 4");
  }

  /** So many steps of a loop of four, which takes 12 cycles. */
  private static FerriteBoard looped(int steps) {
    FerriteBoard board = Check.ready("a: INX\nSTX 1795\nSTX 9,X\nBRA a");
    if (steps >= 4) board.run(steps / 4 * 12);
    for (int i = 0; i < steps % 4; i++) board.step();
    return board;
  }

  private static void backs() {
    int[] all = {1, 5, 199, 200, 201, 202, 399, 400, 401, 550, 600, 601, 750};
    for (int steps : all) {
      for (int back : new int[] {1, 2, 50, 199, 200}) {
        FerriteBoard board = looped(steps);
        int kept = Math.min(steps, 200);
        int taken = Math.min(back, kept);
        Check.is("history", board.history(), kept);
        Check.is("back " + back, board.back(back) + " " + board.history(), taken + " " + (kept - taken));
        Check.is("as it was", mixed(board), mixed(looped(steps - taken)));
        for (int i = 0; i < 3; i++) board.step();
        Check.is("on from there", mixed(board), mixed(looped(steps - taken + 3)));
      }
    }
    FerriteBoard board = looped(7);
    Check.is("back 200", board.back(200) + " " + board.cycles() + " " + board.history(), "7 0 0");
    Check.is("nothing more", board.back(1) + " " + board.cycles(), "0 0");
    Check.refusedBy(board, "back", "IllegalArgumentException", () -> board.back(0));
    Check.refusedBy(board, "back", "IllegalArgumentException", () -> board.back(-1));
    Check.refusedBy(board, "back", "IllegalArgumentException", () -> board.back(201));
    board.run(10);
    board.setBreak(3073, 9);
    board.run(100);
    board.setWatch(1, 2, true, true);
    Check.is("all of fewer", board.back(200) > 1 && board.stopped() == 0, true);
    Check.is("breaks and watches stay", board.clearWatches() + " " + (board.clearBreak(3073) < 9), "1 true");
    FerriteBoard stop = Check.ready("NOP\nHLT");
    stop.run(100);
    Check.is("stopped", stop.stopped() + " " + stop.back(1) + " " + stop.stopped() + " " + stop.state(), "4 1 0 0");
    stop.run(100);
    stop.back(2);
    stop.run(1);
    stop.back(1);
    stop.back(1);
    Check.is("stopped behind nothing", stop.stopped(), 0);
  }

  /** Of the machine alone: digest() tells stopped() and history() too. */
  private static long mixed(FerriteBoard board) {
    long mixed = board.cycles() * 31L + board.x();
    for (int i = 9; i < 270; i += 3) mixed = mixed * 31 + board.byteAt(i);
    for (int i = 0; i < 40 && i < board.outputs(); i++) mixed = mixed * 31 + board.outputAt(i);
    return mixed * 31 + board.timesAt(3072) + board.instructions() * 1000L + board.outputs();
  }

  /** All of PORTS, S, CALLS and the wanted NMI come back: told by what a twin tells that did nothing. */
  private static void backToPorts() {
    StringBuilder text = new StringBuilder(".bank 5\n.org 2048\n.byte 55\n.bank 2\n.org 2048\n.byte 22\n.org 3072\n");
    int[] ports = {0, 1, 6, 7, 9, 10, 11, 12, 13, 8, 3};
    for (int round = 0; round < 2; round++) {
      for (int port : ports) text.append("LDA #").append(port == 0 ? 5 - 3 * round : port * 7 + 3 + 8 * round).append("\nSTA 1792+").append(port).append('\n');
      text.append(round == 0 ? "WAI\nlater: JSR here\nhere: LDA 1796\nPHA\nPHA\n" : "NOP\nHLT\n");
    }
    text.append("probe: LDX 1796\nSTX 1795\n");
    for (int port : new int[] {0, 1, 2, 5, 6, 7, 8, 9, 10, 11, 12, 13, 15}) text.append("LDA 1792+").append(port).append("\nSTA 1795\n");
    text.append("LDA #0\nSTA 1800\nLDA #1\nSTA 1800\nLDA 1798\nSTA 1795\nLDA 1799\nSTA 1795\n");
    text.append("LDA 2048\nSTA 1795\nTSX\nSTX 1795\nHLT");
    FerriteBoard[] both = new FerriteBoard[2];
    for (int i = 0; i < 2; i++) {
      FerriteBoard board = Check.ready(text.toString());
      board.key(77);
      board.key(78);
      for (int k = 0; k < 22; k++) board.step();
      int later = board.valueOf(0);
      board.setRegister(4, later);
      if (i == 1) {
        for (int k = 0; k < 28; k++) board.step();
        Check.is("HALTED", board.state() + " " + board.outputs() + " " + board.calls() + " " + board.inputs(), "2 2 1 1");
        Check.is("all taken back", board.back(200), 28);
      }
      board.setRegister(4, board.valueOf(2));
      board.run(5000);
      both[i] = board;
    }
    Check.is("outputs of the twins", both[1].outputs() + " " + both[1].calls(), both[0].outputs() + " 0");
    for (int i = 0; i < both[0].outputs(); i++) Check.is("output " + i, both[1].outputAt(i), both[0].outputAt(i));
    Check.is("the twins", both[1].digest(), both[0].digest());
    Check.is("what they told", both[0].outputAt(0) + " " + both[0].outputAt(1) + " " + both[0].outputAt(5) + " " + both[0].outputAt(17), "255 55 94 77");
    Check.is("RELOAD", both[0].outputAt(2) * 256 + both[0].outputAt(3), 52 * 256 + 45 - 4);
    FerriteBoard nmi = Check.ready("NOP\nNOP");
    nmi.nmi();
    nmi.step();
    Check.is("the NMI comes back", nmi.back(1) + " " + nmi.nmi(), "1 true");
  }

  private static void calls() {
    FerriteBoard board = Check.ready("a: BSR a2\nNOP\na2: JSR a\n");
    for (int i = 0; i < 39; i++) board.step();
    Check.is("39 calls", board.calls() + " " + board.callAt(0) + " " + board.callAt(38), "39 3072 3072");
    board.step();
    Check.is("40 calls", board.calls() + " " + board.callAt(0) + " " + board.callAt(39), "40 3075 3072");
    board.step();
    Check.is("the lowest goes", board.calls() + " " + board.callAt(0) + " " + board.callAt(39), "40 3072 3075");
    Check.is("over with 40", board.stepOver() + " " + board.stopped() + " " + board.calls(), "5 6 40");
    Check.refusedBy(board, "callAt", "IndexOutOfBoundsException", () -> board.callAt(40));
    Check.refusedBy(board, "callAt", "IndexOutOfBoundsException", () -> board.callAt(-1));
    Check.is("back", board.back(2) + " " + board.calls() + " " + board.callAt(39) + " " + board.callAt(0), "2 40 3072 3075");
    FerriteBoard none = Check.ready("RTS");
    none.step();
    Check.is("RTS without a call", none.calls(), 0);
    Check.refusedBy(none, "callAt", "IndexOutOfBoundsException", () -> none.callAt(0));
    FerriteBoard vector = Check.ready("NOP\n.org 4080\n.word 0,700\n.org 700\nBRK\nRTI\n.org 4092\n.word 701");
    vector.step();
    vector.nmi();
    vector.step();
    vector.step();
    Check.is("PC that is pushed, and BRK", vector.calls() + " " + vector.callAt(1) + " " + vector.callAt(0), "2 3073 700");
    vector.step();
    Check.is("RTI", vector.calls() + " " + vector.callAt(0) + " " + vector.pc(), "1 3073 701");
    vector.reset();
    Check.is("reset", vector.calls(), 0);
  }

  public static void main(String[] args) {
    runs();
    breaks();
    watches();
    over();
    out();
    backs();
    backToPorts();
    calls();
    Check.finish();
  }
}
