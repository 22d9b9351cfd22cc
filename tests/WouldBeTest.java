import java.util.Random;

/** Promises 51 to 57: what would be, which bytes are code, and the mean (the checksum is in EdgesCallsTest). */
public final class WouldBeTest {
  private static void toHalt() {
    FerriteBoard board = Check.ready("NOP\nINX\nHLT\n");
    Check.is("to HLT", board.cyclesToHalt(5000) + " " + board.cyclesToHalt(3) + " " + board.cyclesToHalt(2) + " " + board.cyclesToHalt(1), "3 3 -1 -1");
    board.run(3);
    Check.is("0 if it is", board.cyclesToHalt(1), 0);
    FerriteBoard last = Check.ready("LDA 300\nHLT");
    Check.is("with a longer step", last.cyclesToHalt(4) + " " + last.cyclesToHalt(5), "-1 5");
    FerriteBoard broken = Check.ready("NOP\n.byte 255");
    Check.is("BROKEN", broken.cyclesToHalt(2) + " " + broken.cyclesToHalt(1), "2 -1");
    broken.setBreak(3073, 0);
    broken.setWatch(0, 4095, true, true);
    Check.is("breaks do not count", broken.cyclesToHalt(2), 2);
    Check.is("never", Check.ready("a: BRA a").cyclesToHalt(5000), -1);
    refused(board);
  }

  private static void refused(FerriteBoard ended) {
    for (int bad : new int[] {0, -1, 5001, Integer.MIN_VALUE, Integer.MAX_VALUE}) {
      FerriteBoard board = bad > 0 ? ended : new FerriteBoard();
      Check.refusedBy(board, "cyclesToHalt", "IllegalArgumentException", () -> board.cyclesToHalt(bad));
      Check.refusedBy(board, "cyclesToReach", "IllegalArgumentException", () -> board.cyclesToReach(5, bad));
      Check.refusedBy(board, "outputsIn", "IllegalArgumentException", () -> board.outputsIn(bad));
      Check.refusedBy(board, "writesIn", "IllegalArgumentException", () -> board.writesIn(5, bad));
    }
    for (int bad : new int[] {4096, -1, Integer.MIN_VALUE}) {
      FerriteBoard board = new FerriteBoard();
      Check.refusedBy(board, "cyclesToReach", "IllegalArgumentException", () -> board.cyclesToReach(bad, 5));
      Check.refusedBy(board, "writesIn", "IllegalArgumentException", () -> board.writesIn(bad, 5));
      Check.refusedBy(board, "isCode", "IllegalArgumentException", () -> board.isCode(bad));
    }
  }

  private static void toReach() {
    FerriteBoard board = Check.ready("NOP\nLDA 300\nINX\nHLT\n");
    Check.is("now", board.cyclesToReach(3072, 1), 0);
    Check.is("ahead", board.cyclesToReach(3073, 1) + " " + board.cyclesToReach(3076, 5) + " " + board.cyclesToReach(3076, 2) + " "
        + board.cyclesToReach(3077, 5), "1 5 5 -1");
    Check.is("not behind HLT", board.cyclesToReach(3077, 100) + " " + board.cyclesToReach(3078, 100), "6 -1");
    board.run(100);
    Check.is("HALTED there", board.cyclesToReach(3078, 100), -1);
    FerriteBoard nmi = Check.ready("NOP\nRTI\n.org 4080\n.word 0,3073");
    nmi.nmi();
    Check.is("a vector first", nmi.cyclesToReach(3072, 100) + " " + nmi.cyclesToReach(3073, 100), "9 5");
    FerriteBoard waits = Check.ready("WAI\nNOP");
    Check.is("WAITING there", waits.cyclesToReach(3073, 100), -1);
    Check.is("a loop", Check.ready("a: NOP\nBRA a\nb: NOP").cyclesToReach(3075, 5000), -1);
  }

  private static void outputsAndWrites() {
    FerriteBoard board = Check.ready("STA 1795\nSTA 1795\nHLT\nSTA 1795");
    Check.is("outputsIn", board.outputsIn(1) + " " + board.outputsIn(4) + " " + board.outputsIn(5) + " " + board.outputsIn(5000), "1 1 2 2");
    board.run(100);
    Check.is("HALTED", board.outputsIn(100) + " " + board.writesIn(1795, 100), "0 0");
    FerriteBoard writes = Check.ready("STA 9\nINC 9\nSTA 4000\nPHA\nLDX #3\nSTX 1806\nHLT");
    Check.is("writesIn", writes.writesIn(9, 5000) + " " + writes.writesIn(9, 3) + " " + writes.writesIn(9, 4) + " " + writes.writesIn(9, 1), "2 1 2 1");
    Check.is("in vain, pushed, not copied", writes.writesIn(4000, 5000) + " " + writes.writesIn(511, 5000) + " " + writes.writesIn(0, 5000) + " "
        + writes.writesIn(1806, 5000), "1 1 0 1");
    FerriteBoard vector = Check.ready("NOP\n.org 4080\n.word 0,3072");
    vector.nmi();
    Check.is("by a vector", vector.writesIn(511, 1) + " " + vector.writesIn(509, 1) + " " + vector.writesIn(508, 1), "1 1 0");
  }

  /** Nothing is changed, and what is told comes true. */
  private static void comesTrue() {
    Programs programs = new Programs(new Random(7));
    Random chance = new Random(8);
    for (int i = 0; i < 60; i++) {
      FerriteBoard board = new FerriteBoard();
      FerriteBoard twin = new FerriteBoard();
      String text = programs.program();
      Check.type(board, text);
      Check.type(twin, text);
      if (board.assemble() != 0) continue;
      twin.assemble();
      board.run(1 + chance.nextInt(200));
      twin.run(board.cycles() == 0 ? 1 : board.cycles());
      int span = 1 + chance.nextInt(900);
      String ahead = Check.everything(board);
      int halt = board.cyclesToHalt(span);
      int outputs = board.outputsIn(span);
      int writes = board.writesIn(5, span);
      board.cyclesToReach(3080, span);
      board.codes();
      board.isCode(3072);
      board.meanCycles();
      Check.is("nothing is changed", Check.everything(board), ahead);
      Check.is("the twin is the same", twin.pc() + " " + twin.cycles(), board.pc() + " " + board.cycles());
      int came = twin.outputs();
      int stepped = twin.state() < 2 ? twin.run(span) : 0;
      Check.is("outputs", twin.outputs() - came, outputs);
      Check.is("halt", twin.state() >= 2 ? stepped : -1, halt);
      Check.is("writes are some", writes >= 0, true);
    }
  }

  private static String code(String text, int... addresses) {
    FerriteBoard board = Check.ready(text);
    StringBuilder told = new StringBuilder();
    for (int address : addresses) told.append(board.isCode(address) ? 1 : 0);
    return told.toString();
  }

  private static void codes() {
    String halted = "\n.org 4080\n.fill 16,$fc\n.org $cfc\nHLT";
    Check.is("one behind another", code("LDA 9\nSTA 300\nHLT\nNOP" + halted, 3072, 3073, 3074, 3075, 3077, 3078), "101010");
    Check.is("a vector", code("HLT" + halted, 3324, 3325), "10");
    for (String ends : new String[] {"HLT", "RTS", "RTI", "JMP (8)", "JMP 3072,X", "JMP 3072", "BRA 3072"}) {
      int next = 3072 + (ends.length() == 3 ? 1 : ends.equals("JMP (8)") || ends.startsWith("BRA") ? 2 : 3);
      Check.is("not behind " + ends, code(ends + "\nNOP" + halted, 3072, next), "10");
    }
    for (String goes : new String[] {"WAI", "BRK", "JSR 3072", "JSR (8)", "JSR 3072,X", "BSR 3072", "BEQ 3072", "BVC 3072"}) {
      int next = 3072 + (goes.length() == 3 ? 1 : goes.startsWith("JSR 3") ? 3 : 2);
      Check.is("behind " + goes, code(goes + "\nHLT" + halted, 3072, next), "11");
    }
    Check.is("JMP", code("JMP 700\n.org 700\nHLT" + halted, 700), "1");
    Check.is("JSR", code("JSR 700\nHLT\n.org 700\nHLT" + halted, 700), "1");
    Check.is("JMP ,X", code("JMP 700,X\n.org 700\nHLT" + halted, 700), "0");
    Check.is("JSR ,X", code("JSR 700,X\nHLT\n.org 700\nHLT" + halted, 700), "0");
    Check.is("BEQ", code("BEQ a\nHLT\nNOP\na: HLT" + halted, 3075, 3076), "01");
    Check.is("BRA", code("BRA a\nHLT\nNOP\na: HLT" + halted, 3074, 3076), "01");
    Check.is("BSR", code("BSR a\nHLT\nNOP\na: HLT" + halted, 3074, 3076), "11");
    Check.is("no instruction", code(".byte 255\nNOP" + halted, 3072, 3073), "00");
    String six = "\n.org 4080\n.word $cfc,$cfc,$cfc,$cfc,$cfc,$cfc,4096+800,$cfc\n.org $cfc\nHLT\n.org 800\nHLT";
    Check.is("VECTOR 6", code("HLT" + six, 800), "1");
    FerriteBoard few = Check.ready("LDA #1\nHLT" + halted);
    Check.is("codes", few.codes(), 3);
    few.poke(3072, 255);
    Check.is("as they are now", few.codes() + " " + few.isCode(3074), "1 false");
    few.setRegister(4, 3074);
    Check.is("from PC", few.codes(), 2);
    FerriteBoard zero = new FerriteBoard();
    Check.is("all NOPs", zero.codes() + " " + zero.isCode(1800) + " " + zero.isCode(4095), "4096 true true");
    FerriteBoard bank = Check.ready("LDA #1\nSTA 1792\nJMP 2048\n.bank 1\n.org 2048\nINX\nHLT" + halted.replace("\n.org $cfc", "\n.bank 0\n.org $cfc"));
    Check.is("with BANK 0 all NOPs there", bank.codes() > 1000, true);
    bank.step();
    bank.step();
    Check.is("with BANK 1", bank.codes() + " " + bank.isCode(2049) + " " + bank.isCode(2050), "4 true false");
  }

  private static void mean() {
    FerriteBoard board = Check.ready("NOP\nLDA 300\nNOP\nHLT");
    Check.is("without instructions", board.meanCycles(), 0.0);
    board.step();
    board.step();
    Check.is("not cut", board.meanCycles(), 2.5);
    board.step();
    Check.is("not cut", board.meanCycles(), 2.0);
    board.step();
    Check.is("not cut", board.meanCycles(), 1.75);
    FerriteBoard waits = Check.ready("WAI");
    waits.run(7);
    Check.is("waiting counts", waits.meanCycles(), 7.0);
    FerriteBoard vector = new FerriteBoard();
    vector.nmi();
    vector.step();
    Check.is("cycles alone", vector.meanCycles() + " " + vector.cycles(), "0.0 5");
  }

  public static void main(String[] args) {
    toHalt();
    toReach();
    outputsAndWrites();
    comesTrue();
    codes();
    mean();
    Check.finish();
  }
}
