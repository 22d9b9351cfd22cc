/** Section 3: what each instruction does, how long it is and what it takes (and promises 48 to 50). */
public final class InstructionsTest {
  private static final int C = 1;
  private static final int Z = 2;
  private static final int I = 4;
  private static final int V = 8;
  private static final int N = 16;

  /** A, X, FLAGS (I is set) ahead; the work; A, X, FLAGS and cycles due. */
  private static void acts(String work, int a, int x, int flags, int dueA, int dueX, int dueFlags, int dueCycles) {
    FerriteBoard board = Check.ready(work);
    board.setRegister(0, a);
    board.setRegister(1, x);
    board.setRegister(3, flags | I);
    int length = board.lengthAt(3072);
    int took = board.step();
    String got = board.a() + " " + board.x() + " " + board.flags() + " " + took + " " + board.pc();
    String due = dueA + " " + dueX + " " + (dueFlags | I) + " " + dueCycles + " " + (3072 + length);
    Check.is(work + " with " + a + " " + x + " " + flags, got, due);
  }

  private static void loads() {
    acts("LDA #5", 1, 2, Z | N | C | V, 5, 2, C | V, 2);
    acts("LDA #0", 1, 2, N, 0, 2, Z, 2);
    acts("LDA #-1", 1, 2, Z, 255, 2, N, 2);
    acts("LDX #128", 1, 2, Z, 1, 128, N, 2);
    acts("LDX 9\n.org 9\n.byte 7", 1, 2, Z, 1, 7, 0, 3);
    acts("LDA 300\n.org 300\n.byte 7", 1, 2, Z, 7, 2, 0, 4);
    acts("LDA 300,X\n.org 302\n.byte 7", 1, 2, Z, 7, 2, 0, 4);
    acts("LDA 4095,X\n.org 1\n.byte 7", 1, 2, Z, 7, 2, 0, 4);
    acts("LDA (16)\n.org 16\n.word 4096+300\n.org 300\n.byte 7", 1, 2, Z, 7, 2, 0, 5);
    acts("LDA (255)\n.org 255\n.byte 44\n.org 0\n.byte 1\n.org 300\n.byte 7", 1, 2, Z, 7, 2, 0, 5);
    acts("LDA (16),X\n.org 16\n.word 298\n.org 300\n.byte 7", 1, 2, Z, 7, 2, 0, 5);
    acts("LDA (16),X\n.org 16\n.word 65535\n.org 1\n.byte 7", 1, 2, Z, 7, 2, 0, 5);
  }

  private static void sums() {
    acts("ADD #1", 255, 3, C | V, 0, 3, C | Z, 2);
    acts("ADD #1", 127, 3, C, 128, 3, V | N, 2);
    acts("ADD #128", 128, 3, 0, 0, 3, C | V | Z, 2);
    acts("ADD #2", 3, 3, C | V | Z | N, 5, 3, 0, 2);
    acts("ADC #0", 255, 3, C, 0, 3, C | Z, 2);
    acts("ADC #127", 0, 3, C, 128, 3, V | N, 2);
    acts("ADC #255", 255, 3, C, 255, 3, C | N, 2);
    acts("ADC #5", 1, 3, 0, 6, 3, 0, 2);
    acts("SUB #1", 5, 3, 0, 4, 3, C, 2);
    acts("SUB #6", 5, 3, C, 255, 3, N, 2);
    acts("SUB #1", 128, 3, 0, 127, 3, C | V, 2);
    acts("SUB #0", 0, 3, 0, 0, 3, C | Z, 2);
    acts("SBC #1", 5, 3, 0, 3, 3, C, 2);
    acts("SBC #1", 5, 3, C, 4, 3, C, 2);
    acts("SBC #255", 127, 3, 0, 127, 3, 0, 2);
    acts("SBC #0", 0, 3, 0, 255, 3, N, 2);
    acts("CMP #5", 5, 3, N, 5, 3, C | Z, 2);
    acts("CMP #6", 5, 3, C | Z, 5, 3, N, 2);
    acts("CMP #1", 255, 3, Z, 255, 3, C | N, 2);
    acts("CPX #3", 5, 3, N | V, 5, 3, C | Z | V, 2);
    acts("CPX #250", 5, 3, C, 5, 3, 0, 2);
    acts("ADD 9\n.org 9\n.byte 4", 1, 0, 0, 5, 0, 0, 3);
  }

  private static void bits() {
    acts("AND #12", 10, 3, N, 8, 3, 0, 2);
    acts("AND #5", 10, 3, C, 0, 3, C | Z, 2);
    acts("OR #128", 1, 3, Z, 129, 3, N, 2);
    acts("XOR #255", 255, 3, C, 0, 3, C | Z, 2);
    acts("BIT #192", 63, 3, C, 63, 3, C | Z | N | V, 2);
    acts("BIT #1", 3, 3, Z | N | V, 3, 3, 0, 2);
    acts("BIT #64", 64, 3, N, 64, 3, V, 2);
    acts("SHL", 129, 3, 0, 2, 3, C, 1);
    acts("SHL", 64, 3, C | Z, 128, 3, N, 1);
    acts("SHR", 1, 3, N, 0, 3, C | Z, 1);
    acts("SHR", 255, 3, N, 127, 3, C, 1);
    acts("ROL", 128, 3, C, 1, 3, C, 1);
    acts("ROL", 128, 3, 0, 0, 3, C | Z, 1);
    acts("ROR", 0, 3, C, 128, 3, N, 1);
    acts("ROR", 1, 3, 0, 0, 3, C | Z, 1);
    acts("SHL", 1, 3, C, 2, 3, 0, 1);
    acts("SWN", 0x1f, 3, C, 0xf1, 3, C | N, 1);
    acts("SWN", 0xf0, 3, N, 0x0f, 3, 0, 1);
    acts("SWN", 0x10, 3, N, 1, 3, 0, 1);
    acts("SWN", 0, 3, N, 0, 3, Z, 1);
    acts("NEG", 0, 3, C, 0, 3, C | Z, 1);
    acts("NEG", 1, 3, Z, 255, 3, N, 1);
    acts("NOT", 255, 3, N, 0, 3, Z, 1);
    acts("NOT", 0, 3, Z, 255, 3, N, 1);
  }

  private static void moves() {
    acts("NOP", 1, 2, N, 1, 2, N, 1);
    acts("CLC", 1, 2, C | N, 1, 2, N, 1);
    acts("SEC", 1, 2, N, 1, 2, C | N, 1);
    acts("TAX", 0, 2, N, 0, 0, Z, 1);
    acts("TXA", 1, 200, Z, 200, 200, N, 1);
    acts("TSX", 1, 2, Z, 1, 255, N, 1);
    acts("SWP", 0, 200, Z, 200, 0, N, 1);
    acts("SWP", 200, 0, N, 0, 200, Z, 1);
    acts("MUL", 16, 17, C, 16, 1, C, 9);
    acts("MUL", 16, 16, N, 0, 1, C | Z, 9);
    acts("MUL", 10, 20, C | Z, 200, 0, N, 9);
    acts("DIV", 17, 5, V | C, 3, 2, C, 9);
    acts("DIV", 3, 5, N, 0, 3, Z, 9);
    acts("DIV", 17, 0, N | C, 17, 0, N | C | V, 9);
    acts("INX", 1, 255, N, 1, 0, Z, 1);
    acts("INX", 1, 127, Z, 1, 128, N, 1);
    acts("DEX", 1, 0, Z, 1, 255, N, 1);
    acts("DEX", 1, 1, N, 1, 0, Z, 1);
    FerriteBoard board = Check.ready("TXS\nTSX");
    board.setRegister(1, 0);
    board.setRegister(3, N);
    board.step();
    Check.is("TXS", board.s() + " " + board.flags(), "0 16");
    board.step();
    Check.is("TSX", board.x() + " " + board.flags(), "0 2");
    board = Check.ready("CLI\nSEI");
    board.step();
    Check.is("CLI", board.flags(), 0);
    board.step();
    Check.is("SEI", board.flags(), 4);
  }

  /** The byte at the address behind the work, and FLAGS beside I. */
  private static void writes(String work, int address, int a, int x, int flags, int due, int dueFlags, int cycles) {
    FerriteBoard board = Check.ready(work);
    board.setRegister(0, a);
    board.setRegister(1, x);
    board.setRegister(3, flags | I);
    int took = board.step();
    Check.is(work + " writes", board.byteAt(address) + " " + board.flags() + " " + took, due + " " + (dueFlags | I) + " " + cycles);
    Check.is(work + " leaves A and X", board.a() + " " + board.x(), a + " " + x);
  }

  private static void written() {
    writes("STA 9", 9, 7, 2, Z | N, 7, Z | N, 3);
    writes("STX 300", 300, 7, 2, Z, 2, Z, 4);
    writes("STA 300,X", 302, 7, 2, 0, 7, 0, 4);
    writes("STA (9)\n.org 9\n.word 300", 300, 7, 2, 0, 7, 0, 5);
    writes("STX (9),X\n.org 9\n.word 300", 302, 7, 2, 0, 2, 0, 5);
    writes("INC 9\n.org 9\n.byte 255", 9, 7, 2, N | C, 0, Z | C, 4);
    writes("DEC 9", 9, 7, 2, Z, 255, N, 4);
    writes("DEC 300\n.org 300\n.byte 1", 300, 7, 2, N, 0, Z, 5);
    writes("SHL 9\n.org 9\n.byte 129", 9, 7, 2, 0, 2, C, 4);
    writes("SHR 9\n.org 9\n.byte 129", 9, 7, 2, N, 64, C, 4);
    writes("ROL 9\n.org 9\n.byte 129", 9, 7, 2, C, 3, C, 4);
    writes("SHL 9\n.org 9\n.byte 1", 9, 7, 2, C | Z | N, 2, 0, 4);
    writes("SHR 9\n.org 9\n.byte 2", 9, 7, 2, C | Z | N, 1, 0, 4);
    writes("ROR 9\n.org 9\n.byte 2", 9, 7, 2, C, 129, N, 4);
    writes("INC 300,X\n.org 302\n.byte 4", 302, 7, 2, 0, 5, 0, 5);
    writes("INC (9)\n.org 9\n.word 300\n.org 300\n.byte 4", 300, 7, 2, 0, 5, 0, 6);
    writes("STA 4000", 4000, 7, 2, 0, 0, 0, 4);
    writes("STA 2048", 2048, 7, 2, 0, 7, 0, 4);
    writes("INC 3072", 3072, 7, 2, 0, 147, N, 5);
  }

  private static void stack() {
    FerriteBoard board = Check.ready("PHA\nPHX\nPHP\nPLA\nPLX\nPLP");
    board.setRegister(0, 7);
    board.setRegister(1, 200);
    board.setRegister(2, 1);
    board.setRegister(3, 31);
    Check.is("PHA takes", board.step(), 2);
    Check.is("PHA", board.byteAt(257) + " " + board.s(), "7 0");
    board.step();
    Check.is("PHX behind 0", board.byteAt(256) + " " + board.s(), "200 255");
    board.step();
    Check.is("PHP", board.byteAt(511) + " " + board.s(), "31 254");
    Check.is("PLA takes", board.step(), 2);
    Check.is("PLA", board.a() + " " + board.flags() + " " + board.s(), "31 13 255");
    board.step();
    Check.is("PLX", board.x() + " " + board.flags() + " " + board.s(), "200 29 0");
    board.poke(257, 255);
    board.step();
    Check.is("PLP takes the byte & 31", board.flags() + " " + board.s(), "31 1");
  }

  private static void jumps() {
    FerriteBoard board = Check.ready("JSR 300\n.org 300\nRTS\n.org 0\n.word 300");
    Check.is("JSR", board.step() + " " + board.pc() + " " + board.byteAt(511) + " " + board.byteAt(510), "5 300 12 3");
    Check.is("RTS", board.step() + " " + board.pc() + " " + board.s() + " " + board.calls(), "3 3075 255 0");
    Check.is("JMP", told("JMP 300", 0), "3 300 255");
    Check.is("JMP ,X", told("JMP 4095,X", 2), "3 1 255");
    Check.is("JMP ()", told("JMP (16)\n.org 16\n.word 4096 + 77", 2), "4 77 255");
    Check.is("JSR ,X", told("JSR 300,X", 2), "5 302 253");
    Check.is("JSR ()", told("JSR (16)\n.org 16\n.word 77", 2), "6 77 253");
    board = Check.ready("BRK\n.org 300\nRTI\n.org 4092\n.word 300");
    board.setRegister(3, 27);
    Check.is("BRK", board.step() + " " + board.pc() + " " + board.flags() + " " + board.byteAt(509) + " " + board.callAt(0), "6 300 31 27 3072");
    Check.is("pushed by BRK", board.byteAt(511) * 256 + board.byteAt(510), 3073);
    Check.is("RTI", board.step() + " " + board.pc() + " " + board.flags() + " " + board.calls(), "4 3073 27 0");
    Check.is("HLT", told("HLT", 0), "1 3073 255");
    Check.is("WAI", told("WAI", 0), "1 3073 255");
    board = Check.ready("RTS");
    board.poke(256, 255);
    board.poke(257, 255);
    Check.is("RTS to an address", board.step() + " " + board.pc(), "3 4095");
    board = Check.ready(".org 4095\nNOP");
    board.setRegister(4, 4095);
    board.step();
    Check.is("PC behind 4095", board.pc(), 0);
  }

  private static String told(String work, int x) {
    FerriteBoard board = Check.ready(work);
    board.setRegister(1, x);
    return board.step() + " " + board.pc() + " " + board.s();
  }

  private static void branches() {
    String[] names = {"BEQ", "BNE", "BCS", "BCC", "BMI", "BPL", "BVS", "BVC", "BRA"};
    int[] flags = {Z, Z, C, C, N, N, V, V, 0};
    for (int i = 0; i < names.length; i++) {
      for (int set = 0; set < 2; set++) {
        FerriteBoard board = Check.ready(names[i] + " @+100");
        board.setRegister(3, set == 1 ? flags[i] : 31 - flags[i]);
        boolean goes = i == 8 || set == 1 == (i % 2 == 0);
        Check.is(names[i] + " " + set, board.step() + " " + board.pc(), goes ? "3 3172" : "2 3074");
      }
    }
    FerriteBoard board = Check.ready("BSR @-126");
    Check.is("BSR", board.step() + " " + board.pc() + " " + board.s() + " " + board.callAt(0), "5 2946 253 3072");
    Check.is("pushed by BSR", board.byteAt(511) * 256 + board.byteAt(510), 3074);
    board = Check.ready(".org 0\nBRA 129");
    board.setRegister(4, 0);
    Check.is("BRA 127 ahead", board.step() + " " + board.pc(), "3 129");
    board.poke(1, 128);
    board.setRegister(4, 0);
    board.step();
    Check.is("BRA below 0", board.pc(), 4096 + 2 - 128);
  }

  /** Which CODEs are instructions, and of how many bytes. */
  private static void codes() {
    int count = 0;
    for (int code = 0; code < 256; code++) {
      int g = code / 8;
      int m = code % 8;
      boolean is = g < 4 || g >= 4 && g <= 15 && m >= 1 && m <= 6 || g >= 16 && g <= 23 && m >= 2 && m <= 6
          || (g == 24 || g == 25) && m >= 3 && m <= 5 || g == 26 || g == 27 && m < 2;
      int length = !is ? 0 : g < 4 ? 1 : g < 26 && (m == 3 || m == 4) ? 3 : 2;
      FerriteBoard board = new FerriteBoard();
      board.poke(500, code);
      board.poke(501, 200);
      board.poke(502, 255);
      int operand = length < 2 ? -1 : g >= 26 ? 446 : length == 2 ? 200 : 65480;
      String got = board.codeAt(500) + " " + board.lengthAt(500) + " " + board.operandAt(500);
      Check.is("code " + code, got, (is ? code : -1) + " " + length + " " + operand);
      board.setRegister(4, 500);
      board.step();
      Check.is("broken by " + code, board.state() == 3, !is);
      if (!is) Check.is("left by " + code, board.pc() + " " + board.cycles() + " " + board.instructions(), "500 1 0");
      if (is) count++;
    }
    Check.is("instructions in all", count, 32 + 12 * 6 + 8 * 5 + 6 + 10);
    FerriteBoard board = new FerriteBoard();
    Check.is("in PORTS", board.codeAt(1800) + " " + board.lengthAt(1800) + " " + board.operandAt(1800), "0 1 -1");
    board.poke(1791, 200 / 8 * 8 + 3);
    Check.is("ahead of PORTS", board.lengthAt(1791) + " " + board.operandAt(1791), "3 0");
    board.poke(4095, 195);
    board.poke(0, 1);
    board.poke(1, 2);
    Check.is("across 4095", board.operandAt(4095), 513);
    Check.refused("codeAt", "IllegalArgumentException", () -> board.codeAt(4096));
    Check.refused("codeAt", "IllegalArgumentException", () -> board.codeAt(-1));
    Check.refused("lengthAt", "IllegalArgumentException", () -> board.lengthAt(4096));
    Check.refused("lengthAt", "IllegalArgumentException", () -> board.lengthAt(-1));
    Check.refused("operandAt", "IllegalArgumentException", () -> board.operandAt(4096));
    Check.refused("operandAt", "IllegalArgumentException", () -> board.operandAt(-1));
  }

  public static void main(String[] args) {
    loads();
    sums();
    bits();
    moves();
    written();
    stack();
    jumps();
    branches();
    codes();
    Check.finish();
  }
}
