import java.math.BigInteger;

/** Promises 1 to 15 and 27 to 58, sentence by sentence, at the edges of what each call takes and tells. */
public final class EdgesCallsTest {
  // the text

  /** "of all names whose values are 0 to address the one with the greatest value, of several the smallest one; -1 without any" */
  private static void nameNear() {
    FerriteBoard none = new FerriteBoard();
    Check.is("without any", Bench.all(none.nameNear(0), none.nameNear(4095), none.names()), "-1 -1 0");
    FerriteBoard board = Check.assembled("a=-1\nb=4096\nc=4095\nd=1\ne=1\nf=300\ng=4095\nh=1<<31");
    int[] addresses = {0, 1, 2, 299, 300, 301, 4094, 4095};
    int[] due = {-1, 3, 3, 3, 5, 5, 5, 2};
    for (int i = 0; i < addresses.length; i++) Check.is("nameNear " + addresses[i], board.nameNear(addresses[i]), due[i]);
    FerriteBoard zero = Check.assembled("a=5\nb=0\nc=0");
    Check.is("a value of 0", Bench.all(zero.nameNear(0), zero.nameNear(4), zero.nameNear(5), zero.nameNear(4095)), "1 1 0 0");
    Check.is("numbered as they were defined", Bench.all(board.names(), board.valueOf(0), board.valueOf(1), board.valueOf(7)), Bench.all(8, -1, 4096, Integer.MIN_VALUE));
    StringBuilder many = new StringBuilder();
    for (int i = 0; i < 119; i++) many.append('n').append(i).append('=').append(i).append('\n');
    FerriteBoard last = Check.assembled(many + "z: .byte 1");
    Check.is("120 names", Bench.all(last.names(), last.valueOf(0), last.valueOf(118), last.valueOf(119), last.nameNear(118), last.nameNear(4095)), "120 0 118 3072 118 119");
  }

  /** "the line, from 1, of the latest text without an error that put a byte there (in the WINDOW: into the bank of BANK); -1 if none did" */
  private static void lineOf() {
    FerriteBoard none = new FerriteBoard();
    for (int address : new int[] {0, 1791, 1792, 2047, 2048, 4095}) Check.is("none did", none.lineOf(address), -1);
    FerriteBoard board = Check.assembled(".org 0\n.byte 0\n\n.org 1791\n.byte 0\n.org 4095\na: .byte 0 ; x\n.org 600\n.fill 3,0\n.org 2048\n.word 0\n.org 700\n.fill 0,1");
    int[] addresses = {0, 1, 1790, 1791, 1792, 2047, 2048, 2049, 2050, 599, 600, 602, 603, 700, 4094, 4095};
    int[] due = {2, -1, -1, 5, -1, -1, 11, 11, -1, -1, 9, 9, -1, -1, -1, 7};
    for (int i = 0; i < addresses.length; i++) Check.is("lineOf " + addresses[i], board.lineOf(addresses[i]), due[i]);
    board.poke(603, 9);
    board.poke(600, 9);
    Check.is("poke changes no line", Bench.all(board.lineOf(603), board.lineOf(600)), "-1 9");
    board.reset();
    Check.is("reset() changes none", board.lineOf(600), 9);
    Check.type(board, "LDA #");
    Check.is("nor a text with an error", Bench.all(board.assemble(), board.lineOf(600), board.names(), board.valueOf(0)), "1 9 1 4095");
    Check.is("from 1", Check.assembled("NOP").lineOf(3072), 1);
    Check.type(board, "\n.org 600\nNOP");
    Check.is("the latest text", Bench.all(board.assemble(), board.lineOf(600), board.lineOf(601), board.lineOf(0), board.names()), "0 3 -1 -1 0");
  }

  /** "the position of the error of the latest assemble(); -1 if it had none, or there was none" */
  private static void errorAt() {
    FerriteBoard board = new FerriteBoard();
    Check.is("there was none", board.errorAt(), -1);
    Check.type(board, "!");
    Check.is("position 0", Bench.all(board.assemble(), board.errorAt()), "1 0");
    board.reset();
    Check.type(board, "NOP");
    Check.is("still the latest", board.errorAt(), 0);
    Check.is("it had none", Bench.all(board.assemble(), board.errorAt()), "0 -1");
    Check.type(board, " ".repeat(1999) + "!");
    Check.is("the last position", Bench.all(board.assemble(), board.errorAt()), "1 1999");
    Check.type(board, ".if 1" + " ".repeat(1995));
    Check.is("the length of the tape", Bench.all(board.assemble(), board.errorAt()), "3 2000");
  }

  // from outside

  /** "Returns how many bytes INPUT has then", values of 0 to 255, up to 16 */
  private static void key() {
    FerriteBoard board = new FerriteBoard();
    for (int i = 1; i <= 16; i++) {
      int value = i == 1 ? 0 : i == 2 ? 255 : 10 * i;
      Check.is("key " + i, Bench.all(board.key(value), board.inputs(), board.pending()), Bench.all(i, i, 2));
    }
    Check.refused("there are 16", "IllegalStateException", () -> board.key(1));
    Check.is("the first bytes", Bench.all(Bench.read(board, 1796), board.key(7), board.inputs()), "0 16 16");
    Check.refused("there are 16 again", "IllegalStateException", () -> board.key(1));
    Check.is("in order", Bench.all(Bench.read(board, 1796), Bench.read(board, 1796), board.inputs()), "255 30 14");
    FerriteBoard all = new FerriteBoard();
    all.signal();
    all.key(1);
    Check.is("beside other bits", all.pending(), 6);
  }

  /** "Bit 4 comes into PENDING." "An NMI is wanted from now on. Returns whether one was wanted already." */
  private static void signalAndNmi() {
    FerriteBoard board = new FerriteBoard();
    Check.is("signal", Bench.all(board.signal(), board.signal(), board.pending()), "4 4 4");
    board.key(1);
    Check.is("all of PENDING", board.signal(), 6);
    Check.is("nmi", Bench.all(board.nmi(), board.nmi(), board.nmi()), "false true true");
    board.step();
    Check.is("taken", Bench.all(board.nmi(), board.nmi()), "false true");
    board.reset();
    Check.is("reset()", board.nmi(), false);
    board.setRegister(0, 1);
    Check.is("still wanted", board.nmi(), true);
  }

  /** "Writes a byte, also into ROM and the banks 4 to 7 (by the WINDOW). Returns what was there." */
  private static void poke() {
    for (int address : new int[] {0, 1, 255, 256, 1790, 1791, 2048, 2049, 3070, 3071, 3072, 4094, 4095}) {
      FerriteBoard board = new FerriteBoard();
      Check.is("poke " + address, Bench.all(board.poke(address, 255), board.poke(address, 1), board.byteAt(address), board.poke(address, 0), board.byteAt(address)), "0 255 1 1 0");
    }
    FerriteBoard board = new FerriteBoard();
    for (int bank = 0; bank < 8; bank++) {
      Bench.write(board, 1792, bank);
      Check.is("the WINDOW is 0", Bench.all(board.poke(2048, 10 + bank), board.poke(3071, 20 + bank)), "0 0");
    }
    for (int bank = 0; bank < 8; bank++) Check.is("bank " + bank, Bench.all(board.byteIn(bank, 0), board.byteIn(bank, 1023), board.byteIn(bank, 1)), Bench.all(10 + bank, 20 + bank, 0));
  }

  /** "0 A, 1 X, 2 S, 3 FLAGS, 4 PC", what it was, and the least and the most of each */
  private static void setRegister() {
    int[] most = {255, 255, 255, 31, 4095};
    int[] first = {0, 0, 255, 4, 0};
    for (int register = 0; register < 5; register++) {
      FerriteBoard board = new FerriteBoard();
      String got = Bench.all(board.setRegister(register, most[register]), board.setRegister(register, 0), board.setRegister(register, 1), board.setRegister(register, 1));
      Check.is("what it was " + register, got, Bench.all(first[register], most[register], 0, 1));
      int[] now = {board.a(), board.x(), board.s(), board.flags(), board.pc()};
      for (int i = 0; i < 5; i++) Check.is("register " + i + " behind " + register, now[i], i == register ? 1 : first[i]);
    }
    FerriteBoard ended = Bench.at(2100, Bench.HLT);
    ended.step();
    ended.setRegister(4, 2100);
    Check.is("state stays", ended.state(), 2);
  }

  // the machine, asked

  /** "the byte there, in the WINDOW that of the bank of BANK; 0 of PORTS (nothing is done by this)" */
  private static void byteAt() {
    FerriteBoard board = new FerriteBoard();
    board.key(7);
    Bench.write(board, 1792, 6);
    Bench.write(board, 1801, 1);
    for (int address = 1792; address < 1820; address++) Check.is("PORTS", board.byteAt(address), 0);
    Check.is("nothing is done", Bench.all(board.inputs(), board.bank(), Bench.read(board, 1801)), Bench.all(1, 6, (128 ^ 46080) % 256));
    board.poke(2048, 5);
    Check.is("the bank of BANK", Bench.all(board.byteAt(2048), board.byteIn(6, 0), board.byteIn(0, 0)), "5 5 0");
    Check.is("the ends", Bench.all(board.byteAt(0), board.byteAt(4095), board.byteAt(2047), board.byteIn(0, 1023), board.byteIn(7, 1023)), "0 0 0 0 0");
  }

  /** "0 for the latest byte of OUTPUT ...; if back is not 0 to 39, or there are not so many" */
  private static void outputAt() {
    for (int outputs : new int[] {1, 2, 39, 40, 41, 80, 81}) {
      FerriteBoard board = Check.ready("a: INX\nSTX 1795\nBRA a");
      board.run(8 * outputs);
      Check.is("outputs", board.outputs(), outputs);
      int kept = Math.min(outputs, 40);
      for (int back = 0; back < kept; back++) Check.is("outputAt " + back + " of " + outputs, board.outputAt(back), outputs - back);
      Check.refused("outputAt " + kept + " of " + outputs, "IndexOutOfBoundsException", () -> board.outputAt(kept));
      Check.refused("outputAt -1", "IndexOutOfBoundsException", () -> board.outputAt(-1));
    }
  }

  /** "the address with the greatest timesAt(), of several the smallest one; -1 if all are 0" */
  private static void hottest() {
    FerriteBoard board = new FerriteBoard();
    Check.is("all are 0", board.hottest(), -1);
    board.setRegister(4, 4095);
    board.step();
    Check.is("4095", Bench.all(board.hottest(), board.timesAt(4095)), "4095 1");
    board.step();
    Check.is("of several the smallest one", Bench.all(board.hottest(), board.timesAt(0), board.timesAt(1)), "0 1 0");
    board.setRegister(4, 4095);
    board.step();
    Check.is("the greatest", Bench.all(board.hottest(), board.timesAt(4095)), "4095 2");
    board.back(1);
    Check.is("taken back", Bench.all(board.hottest(), board.timesAt(4095)), "0 1");
    board.reset();
    Check.is("reset()", Bench.all(board.hottest(), board.timesAt(4095), board.timesAt(0)), "-1 0 0");
    FerriteBoard ports = Bench.at(1792);
    ports.step();
    Check.is("in PORTS", Bench.all(ports.hottest(), ports.timesAt(1792)), "1792 1");
    FerriteBoard banks = Bench.at(2100, Bench.NOP);
    banks.step();
    Bench.write(banks, 1792, 3);
    banks.setRegister(4, 2100);
    banks.step();
    Check.is("in whatever bank", banks.timesAt(2100), 2);
    FerriteBoard others = Bench.at(2100, Bench.NONE);
    others.step();
    Check.is("what is no instruction is not carried out", Bench.all(others.timesAt(2100), others.instructions()), "0 0");
    FerriteBoard vector = Bench.at(2100, Bench.WAI);
    vector.step();
    vector.step();
    vector.nmi();
    vector.step();
    Check.is("nor waiting, nor a vector", Bench.all(vector.timesAt(2100), vector.timesAt(2101), vector.instructions(), vector.cycles()), "1 0 1 7");
  }

  /** codeAt, lengthAt and operandAt at the ends of memory, and beside PORTS */
  private static void codeAt() {
    FerriteBoard board = new FerriteBoard();
    board.poke(4095, Bench.LDA + 3);
    board.poke(0, 255);
    board.poke(1, 254);
    Check.is("at 4095", Bench.all(board.codeAt(4095), board.lengthAt(4095), board.operandAt(4095)), Bench.all(35, 3, 255 + 256 * 254));
    Check.is("no instruction", Bench.all(board.codeAt(0), board.lengthAt(0), board.operandAt(0)), "-1 0 -1");
    board.poke(4095, Bench.BRA);
    board.poke(0, 127);
    Check.is("\"for g 26 and 27 the address to which it goes\"", Bench.all(board.codeAt(4095), board.lengthAt(4095), board.operandAt(4095)), "216 2 128");
    board.poke(0, 128);
    Check.is("back", board.operandAt(4095), 1 + 4096 - 128);
    board.poke(4094, 208);
    board.poke(4095, 3);
    Check.is("past the end", board.operandAt(4094), 3);
    board.poke(10, 215);
    board.poke(11, 244);
    Check.is("to 0", board.operandAt(10), 0);
    board.poke(11, 243);
    Check.is("below 0", board.operandAt(10), 4095);
    board.poke(10, Bench.LDA + 1);
    Check.is("n", board.operandAt(10), 243);
    board.poke(10, Bench.HLT);
    Check.is("it has none", Bench.all(board.codeAt(10), board.lengthAt(10), board.operandAt(10)), "1 1 -1");
    for (int address : new int[] {1792, 1800, 2047}) Check.is("in PORTS", Bench.all(board.codeAt(address), board.lengthAt(address), board.operandAt(address)), "0 1 -1");
    board.poke(1791, Bench.BRA);
    Check.is("ahead of PORTS", Bench.all(board.codeAt(1791), board.lengthAt(1791), board.operandAt(1791)), "216 2 1793");
    Bench.write(board, 1792, 4);
    board.poke(2048, Bench.BSR);
    board.poke(2049, 255);
    Check.is("in bank 4", Bench.all(board.codeAt(2048), board.operandAt(2048)), "217 2049");
    Bench.write(board, 1792, 0);
    Check.is("in bank 0", Bench.all(board.codeAt(2048), board.lengthAt(2048)), "0 1");
  }

  // what would be

  /** "till it is HALTED or BROKEN, 0 if it is; -1 if it would not be behind the first step with which most or more are taken" */
  private static void cyclesToHalt() {
    for (int end : new int[] {Bench.HLT, Bench.NONE}) {
      FerriteBoard board = Bench.at(2100, Bench.LDA + 3, 0, 0, end);
      int[] most = {1, 3, 4, 5, 6, 5000};
      int[] due = {-1, -1, -1, 5, 5, 5};
      for (int i = 0; i < most.length; i++) Check.is("cyclesToHalt " + most[i], board.cyclesToHalt(most[i]), due[i]);
      FerriteBoard now = Bench.at(2100, end);
      Check.is("by the first step", Bench.all(now.cyclesToHalt(1), now.cyclesToHalt(5000)), "1 1");
      now.step();
      Check.is("0 if it is", Bench.all(now.cyclesToHalt(1), now.cyclesToHalt(5000)), "0 0");
      now.nmi();
      Check.is("though an NMI is wanted", now.cyclesToHalt(9), 0);
    }
    FerriteBoard far = new FerriteBoard();
    far.setRegister(4, 2100);
    far.poke(2100, Bench.HLT);
    far.setRegister(4, 2101);
    // 1995 NOPs up to 4095, and 2100 from 0 on
    Check.is("4096", Bench.all(far.cyclesToHalt(4095), far.cyclesToHalt(4096), far.cyclesToHalt(5000)), "-1 4096 4096");
    FerriteBoard edge = Bench.at(2100, Bench.WAI, Bench.HLT);
    Bench.write(edge, 1793, 1);
    word(edge, 1798, 5007);
    Bench.write(edge, 1800, 1);
    Check.is("COUNT", edge.count(), 5003);
    Check.is("5000 is not enough", edge.cyclesToHalt(5000), -1);
    edge.run(4);
    Check.is("with the timer", Bench.all(edge.count(), edge.cyclesToHalt(4999), edge.cyclesToHalt(5000)), "4999 -1 5000");
  }

  private static void word(FerriteBoard board, int port, int word) {
    Bench.write(board, port, word % 256);
    Bench.write(board, port + 1, word / 256);
  }

  /** "till it is RUNNING, no vector would be taken next, and PC is the address, 0 if that is so now; -1 if it would not be, ..." */
  private static void cyclesToReach() {
    FerriteBoard board = Bench.at(2100, Bench.LDA + 3, 0, 0, Bench.NOP, Bench.HLT);
    Check.is("so now", Bench.all(board.cyclesToReach(2100, 1), board.cyclesToReach(2100, 5000)), "0 0");
    Check.is("by the step with which most or more are taken", Bench.all(board.cyclesToReach(2103, 1), board.cyclesToReach(2103, 4), board.cyclesToReach(2103, 5000)), "4 4 4");
    Check.is("behind it", Bench.all(board.cyclesToReach(2104, 3), board.cyclesToReach(2104, 4), board.cyclesToReach(2104, 5), board.cyclesToReach(2104, 6)), "-1 -1 5 5");
    Check.is("not HALTED there", Bench.all(board.cyclesToReach(2105, 5000), board.cyclesToReach(2101, 5000)), "-1 -1");
    FerriteBoard broken = Bench.at(2100, Bench.NOP, Bench.NONE);
    Check.is("ahead of being BROKEN there", Bench.all(broken.cyclesToReach(2101, 9), broken.cyclesToReach(2102, 9)), "1 -1");
    broken.run(9);
    Check.is("BROKEN there", Bench.all(broken.state(), broken.pc(), broken.cyclesToReach(2101, 9)), "3 2101 -1");
    FerriteBoard ends = new FerriteBoard();
    Check.is("from 0 to 4095", Bench.all(ends.cyclesToReach(0, 1), ends.cyclesToReach(4095, 4094), ends.cyclesToReach(4095, 4095)), "0 -1 4095");
    ends.setRegister(4, 1);
    Check.is("around to 0", Bench.all(ends.cyclesToReach(0, 4094), ends.cyclesToReach(0, 4095)), "-1 4095");
    FerriteBoard nmi = Bench.at(2100, Bench.NOP, Bench.NOP);
    Bench.vector(nmi, 1, 2101);
    nmi.nmi();
    Check.is("a vector would be taken next", Bench.all(nmi.cyclesToReach(2100, 4), nmi.cyclesToReach(2101, 1)), "-1 5");
    FerriteBoard waits = Bench.at(2100, Bench.WAI, Bench.NOP);
    Check.is("WAITING there", waits.cyclesToReach(2101, 5000), -1);
    FerriteBoard line = Bench.at(2100, 8, Bench.NOP, Bench.NOP);
    Bench.vector(line, 4, 2200);
    Bench.write(line, 1793, 4);
    line.signal();
    line.setRegister(3, 4);
    Check.is("a line would be taken there", Bench.all(line.cyclesToReach(2101, 5), line.cyclesToReach(2200, 6), line.cyclesToReach(2200, 1)), "-1 6 -1");
    line.setRegister(3, 0);
    Check.is("or here", Bench.all(line.cyclesToReach(2100, 4), line.cyclesToReach(2200, 1)), "-1 5");
  }

  /** "up to the one with which so many cycles are taken, or more, or it is HALTED or BROKEN" */
  private static void outputsIn() {
    FerriteBoard board = Bench.at(2100, Bench.STA + 3, 3, 7, Bench.NOP, Bench.INC + 3, 3, 7, Bench.HLT, Bench.STA + 3, 3, 7);
    int[] cycles = {1, 4, 5, 6, 10, 11, 12, 5000};
    int[] due = {1, 1, 1, 2, 2, 2, 2, 2};
    for (int i = 0; i < cycles.length; i++) Check.is("outputsIn " + cycles[i], board.outputsIn(cycles[i]), due[i]);
    board.run(50);
    Check.is("HALTED", Bench.all(board.outputs(), board.outputsIn(1), board.outputsIn(5000)), "2 0 0");
    FerriteBoard broken = Bench.at(2100, Bench.STA + 3, 3, 7, Bench.NONE);
    Check.is("up to BROKEN", Bench.all(broken.outputsIn(5000), broken.run(50), broken.outputsIn(50)), "1 5 0");
    FerriteBoard many = Bench.at(2100, Bench.STA + 3, 3, 7, Bench.BRA, 251);
    Check.is("more than 256", many.outputsIn(5000), 715);
    many.run(5000);
    Check.is("no more than would come", Bench.all(many.outputs(), many.outputsIn(7)), "715 1");
  }

  /** "how many bytes would be written there (also in vain) in steps likewise, by instructions and what is taken by a vector, not by the copier" */
  private static void writesIn() {
    for (int address : new int[] {0, 1791, 1792, 1808, 2047, 2048, 3071, 3072, 4095}) {
      FerriteBoard board = Bench.at(2100, Bench.STA + 3, address % 256, address / 256, Bench.INC + 3, address % 256, address / 256, Bench.HLT, Bench.STA + 3, address % 256,
          address / 256);
      int[] cycles = {1, 4, 5, 9, 10, 5000};
      int[] due = {1, 1, 2, 2, 2, 2};
      for (int i = 0; i < cycles.length; i++) Check.is("writesIn " + address + " " + cycles[i], board.writesIn(address, cycles[i]), due[i]);
      Check.is("beside it", Bench.all(board.writesIn((address + 1) % 4096, 5000), board.writesIn((address + 4095) % 4096, 5000)), "0 0");
    }
    FerriteBoard banks = Bench.at(600, Bench.LDA + 1, 5, Bench.STA + 3, 0, 7, Bench.STA + 3, 0, 8, Bench.HLT);
    Check.is("in vain into bank 5", banks.writesIn(2048, 5000), 1);
    FerriteBoard vector = Bench.at(2100, Bench.NOP);
    Bench.vector(vector, 1, 2200);
    Bench.vector(vector, 6, 2300);
    vector.poke(2200, Bench.BRK);
    vector.poke(2300, Bench.HLT);
    vector.nmi();
    for (int address = 505; address < 512; address++) {
      Check.is("what is pushed at " + address, Bench.all(vector.writesIn(address, 1), vector.writesIn(address, 5000)), Bench.all(address > 508 ? 1 : 0, address > 505 ? 1 : 0));
    }
    FerriteBoard copier = Bench.at(2100, Bench.LDA + 1, 5, Bench.STA + 3, 14, 7, Bench.HLT);
    Bench.write(copier, 1804, 200);
    Check.is("not by the copier", Bench.all(copier.writesIn(200, 5000), copier.writesIn(1806, 5000)), "0 1");
    FerriteBoard ended = Bench.at(2100, Bench.HLT);
    ended.step();
    ended.nmi();
    Check.is("HALTED", ended.writesIn(511, 5000), 0);
    FerriteBoard often = Bench.at(2100, Bench.PHA, Bench.PLA, Bench.BRA, 252);
    Check.is("each time", Bench.all(often.writesIn(511, 5000), often.writesIn(511, 7), often.writesIn(511, 8)), "715 1 2");
  }

  /** "nothing is changed; breaks and watches do not count" */
  private static void nothingIsChanged() {
    FerriteBoard board = Check.ready("a: INX\nSTX 1795\nSTX 9,X\nJSR b\nBRA a\nb: LDA 1801\nSTA 1806\nLDA 1796\nRTS");
    board.setBreak(3073, 7);
    board.setBreak(3072, 0);
    board.setWatch(0, 4095, true, true);
    board.key(5);
    board.run(50);
    String ahead = Check.everything(board);
    int stopped = board.stopped();
    String told = Bench.all(board.cyclesToHalt(5000), board.cyclesToReach(3072, 5000), board.outputsIn(5000) > 5, board.writesIn(1795, 5000) > 5);
    Check.is("they do not count", told, "-1 " + board.cyclesToReach(3072, 5000) + " true true");
    board.isCode(3072);
    board.codes();
    board.meanCycles();
    board.digest();
    Check.is("nothing is changed", Bench.all(Check.everything(board), board.stopped(), board.inputs()), Bench.all(ahead, stopped, 1));
    Check.is("SKIPS stay", Bench.all(board.clearBreak(3073), board.clearBreak(3072), board.clearWatches()), "6 0 1");
  }

  /** An island: PC and all VECTORs come to it alone. */
  private static FerriteBoard island(int... bytes) {
    FerriteBoard board = new FerriteBoard();
    for (int k = 0; k < 8; k++) Bench.vector(board, k, 900);
    board.poke(900, Bench.NONE);
    Bench.put(board, 600, bytes);
    for (int address : new int[] {650, 700}) Bench.put(board, address, Bench.HLT, Bench.NONE);
    board.setRegister(4, 600);
    return board;
  }

  /** "from an instruction one comes to the next one, but not from HLT, RTS, RTI, JMP, BRA; from JMP and JSR of mode 3 to the address, ..." */
  private static void isCode() {
    for (int code = 0; code < 256; code++) {
      FerriteBoard board = island(code, 188, 2, Bench.HLT, Bench.NONE);
      int length = board.lengthAt(600);
      if (length > 0 && length < 3) {
        board = island(code, length == 2 ? 48 : Bench.HLT, length == 2 ? Bench.HLT : Bench.NONE, Bench.NONE, Bench.NONE);
        length = board.lengthAt(600);
      }
      boolean ends = code == Bench.HLT || code == Bench.RTS || code == Bench.RTI || code / 8 == 24 || code == Bench.BRA;
      boolean goes = code == Bench.JMP + 3 || code == Bench.JSR + 3;
      boolean branches = code >= 208 && code <= 217;
      boolean is = length > 0;
      Check.is("code " + code, board.isCode(600), is);
      Check.is("the next one of " + code, is && board.isCode(600 + length), is && !ends);
      Check.is("the address of " + code, board.isCode(700), goes);
      Check.is("where it branches of " + code, board.isCode(650), branches);
      Check.is("codes of " + code, board.codes(), (is ? 1 : 0) + (is && !ends ? 1 : 0) + (goes || branches ? 1 : 0));
    }
    FerriteBoard brk = island(Bench.BRK, Bench.NONE);
    Bench.vector(brk, 6, 700);
    Check.is("\"from BRK to VECTOR 6 as well\"", Bench.all(brk.isCode(700), brk.codes()), "true 2");
    for (int k = 0; k < 8; k++) {
      FerriteBoard vector = island(Bench.NONE);
      Check.is("\"From what is no instruction one comes nowhere\"", Bench.all(vector.isCode(600), vector.codes()), "false 0");
      Bench.vector(vector, k, 4096 + 700);
      Check.is("\"or from one of the VECTORs\" " + k, Bench.all(vector.isCode(700), vector.codes()), "true 1");
    }
  }

  private static void isCodeAtTheEnds() {
    FerriteBoard all = new FerriteBoard();
    Check.is("all NOPs", Bench.all(all.codes(), all.isCode(0), all.isCode(4095), all.isCode(1792), all.isCode(2047)), "4096 true true true true");
    FerriteBoard ends = new FerriteBoard();
    for (int k = 0; k < 6; k++) Bench.vector(ends, k, 0);
    ends.poke(0, Bench.HLT);
    ends.setRegister(4, 1);
    Check.is("from 1 up to 4095, and 0", Bench.all(ends.codes(), ends.isCode(0), ends.isCode(4095)), "4096 true true");
    ends.poke(4094, Bench.HLT);
    Check.is("not 4095", Bench.all(ends.codes(), ends.isCode(4094), ends.isCode(4095)), "4095 true false");
    FerriteBoard across = island(Bench.NONE);
    across.setRegister(4, 4078);
    Bench.put(across, 4078, Bench.BRA, 0);
    // 900 is 132, 3: STA of mode 4, and the RTS of the next word behind it
    Check.is("the bytes of VECTORS", Bench.all(across.isCode(4078), across.isCode(4080), across.isCode(4081), across.isCode(4083), across.codes()), "true true false true 3");
    FerriteBoard overlap = island(Bench.BSR, 255, Bench.NONE);
    Check.is("within another one", Bench.all(overlap.isCode(600), overlap.isCode(601), overlap.isCode(602)), "true false false");
    FerriteBoard two = island(Bench.LDA + 1, Bench.HLT, Bench.BRA, 253, Bench.NONE);
    Check.is("both ways of reading bytes", Bench.all(two.isCode(600), two.isCode(601), two.isCode(602), two.codes()), "true true true 3");
    FerriteBoard bank = island(Bench.JMP + 3, 0, 8);
    bank.poke(2048, Bench.HLT);
    Check.is("with BANK 0", Bench.all(bank.isCode(2048), bank.codes()), "true 2");
    Bench.write(bank, 1792, 7);
    bank.poke(2048, Bench.NONE);
    Check.is("with BANK 7", Bench.all(bank.isCode(2048), bank.codes()), "false 1");
    FerriteBoard halted = island(Bench.HLT, Bench.NOP, Bench.HLT);
    halted.step();
    Check.is("from PC, also HALTED", Bench.all(halted.isCode(600), halted.isCode(601), halted.codes()), "false true 2");
  }

  /** "the mean cycles of an instruction, cycles() / instructions(), not cut; 0 without instructions" */
  private static void meanCycles() {
    FerriteBoard board = new FerriteBoard();
    Check.is("without", board.meanCycles(), 0.0);
    board.nmi();
    board.step();
    Check.is("cycles without instructions", Bench.all(board.cycles(), board.meanCycles()), "5 0.0");
    Bench.put(board, 2100, Bench.LDA + 3, 0, 0, Bench.NOP, Bench.NOP);
    board.setRegister(4, 2100);
    Bench.steps(board, 3);
    Check.is("not cut", board.meanCycles(), 11 / 3.0);
    board.reset();
    Check.is("reset()", board.meanCycles(), 0.0);
  }

  /** The checksum by the sentence of promise 58, from what the other calls tell, brought into 64 bits behind each number. */
  private static long digestOf(FerriteBoard board, int outputs) {
    BigInteger d = BigInteger.valueOf(58008);
    int[] told = {board.a(), board.x(), board.s(), board.flags(), board.pc(), board.state(), board.cycles(), board.instructions(), board.bank(), board.mask(), board.pending(),
        board.count(), board.inputs(), board.outputs(), board.stopped(), board.history(), board.calls()};
    for (int x : told) d = mixed(d, x);
    for (int i = 0; i < board.calls(); i++) d = mixed(d, board.callAt(i));
    d = mixed(d, board.names());
    for (int i = 0; i < board.names(); i++) d = mixed(d, board.valueOf(i));
    d = mixed(d, board.hottest());
    d = mixed(d, board.codes());
    for (int i = 0; i < 1792 + 8 * 1024 + 1024; i++) d = mixed(d, byteOfAll(i));
    for (int i = 0; i < outputs; i++) d = mixed(d, board.outputAt(i));
    return d.longValue();
  }

  private static BigInteger mixed(BigInteger d, int x) {
    return d.multiply(BigInteger.valueOf(31)).add(BigInteger.valueOf(x)).mod(BigInteger.ONE.shiftLeft(64));
  }

  /** The few bytes that are not 0 in digest(), by their place among RAM, the banks and ROM. */
  private static int byteOfAll(int place) {
    int[] places = {0, 1791, 1792, 1792 + 1023, 1792 + 3 * 1024, 1792 + 7 * 1024 + 1023, 1792 + 8 * 1024 + 4, 1792 + 8 * 1024 + 1023};
    for (int i = 0; i < places.length; i++) if (places[i] == place) return 200 + i;
    int[] program = {22, 139, 3, 7, 203, 0, 12};
    int at = place - 1792 - 8 * 1024;
    if (at >= 5 && at < 12) return program[at - 5];
    return 0;
  }

  private static void digest() {
    for (int outputs : new int[] {0, 1, 39, 40, 41, 42}) {
      FerriteBoard board = Check.assembled("a=-5\nb: .org 0\n.byte 200\n.org 1791\n.byte 201\n.org 2048\n.byte 202\n.org 3071\n.byte 203\n.bank 3\n.org 2048\n.byte 204\n"
          + ".bank 7\n.org 3071\n.byte 205\n.org 3076\n.byte 206\nc: INX\nSTX 1795\n.byte 203,0,12\n.org 4095\n.byte 207");
      // JSR 3072 comes by NOPs to a byte that is no instruction: PC is put to the loop each time
      board.key(9);
      for (int i = 0; i < outputs; i++) {
        board.setRegister(4, board.valueOf(2));
        Bench.steps(board, 3);
      }
      int[] ports = {1792, 1793, 1798, 1800};
      for (int port : ports) Bench.write(board, port, 243);
      for (int i = 1700; i < 1703; i++) board.poke(i, 0);
      board.setRegister(0, 77);
      board.run(3);
      Check.is("outputs and calls", Bench.all(board.outputs(), board.calls()), Bench.all(outputs, Math.min(outputs, 40)));
      boolean all = board.a() > 0 && board.bank() > 0 && board.mask() > 0 && board.pending() > 0 && board.count() > 0 && board.inputs() > 0 && board.stopped() > 0;
      Check.is("much else", all && board.cycles() > 0, true);
      // the bytes that JSR pushed lie on the stack: taken away, they are 0 again
      for (int i = 256; i < 512; i++) if (outputs > 0 && i >= 512 - 2 * outputs) board.poke(i, 0);
      Check.is("digest with " + outputs, board.digest(), digestOf(board, Math.min(outputs, 40)));
    }
  }

  public static void main(String[] args) {
    nameNear();
    lineOf();
    errorAt();
    key();
    signalAndNmi();
    poke();
    setRegister();
    byteAt();
    outputAt();
    hottest();
    codeAt();
    cyclesToHalt();
    cyclesToReach();
    outputsIn();
    writesIn();
    nothingIsChanged();
    isCode();
    isCodeAtTheEnds();
    meanCycles();
    digest();
    Check.finish();
  }
}
