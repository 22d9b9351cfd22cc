/** Machines put together by hand: bytes in memory, registers, and what the machine does at PORTS. */
final class Bench {
  static final int C = 1;
  static final int Z = 2;
  static final int I = 4;
  static final int V = 8;
  static final int N = 16;

  /** CODEs that the tests put into memory themselves. */
  static final int NOP = 0;
  static final int HLT = 1;
  static final int WAI = 2;
  static final int RTS = 3;
  static final int RTI = 4;
  static final int BRK = 5;
  static final int PHA = 16;
  static final int PLA = 17;
  static final int PHX = 18;
  static final int PLX = 19;
  static final int PHP = 20;
  static final int PLP = 21;
  static final int INX = 22;
  static final int LDA = 32;
  static final int LDX = 40;
  static final int STA = 128;
  static final int INC = 144;
  static final int JMP = 192;
  static final int JSR = 200;
  static final int BRA = 216;
  static final int BSR = 217;
  static final int NONE = 255;

  /** Where the work at PORTS is put: nothing else of a test stands there. */
  private static final int DESK = 1700;

  private Bench() {}

  /** A new machine with these bytes from an address on, and PC there. */
  static FerriteBoard at(int pc, int... bytes) {
    FerriteBoard board = new FerriteBoard();
    put(board, pc, bytes);
    board.setRegister(4, pc);
    return board;
  }

  /** Pokes bytes one behind another, behind 4095 at 0, and not into PORTS. */
  static void put(FerriteBoard board, int address, int... bytes) {
    for (int i = 0; i < bytes.length; i++) {
      int to = (address + i) % 4096;
      if (to < 1792 || to > 2047) board.poke(to, bytes[i]);
    }
  }

  static void word(FerriteBoard board, int address, int word) {
    put(board, address, word % 256, word / 256);
  }

  static void vector(FerriteBoard board, int k, int word) {
    word(board, 4080 + 2 * k, word);
  }

  static void registers(FerriteBoard board, int a, int x, int s, int flags) {
    board.setRegister(0, a);
    board.setRegister(1, x);
    board.setRegister(2, s);
    board.setRegister(3, flags);
  }

  /** One instruction from the desk: A, FLAGS and PC are as ahead of it behind it. Answers its A. */
  private static int one(FerriteBoard board, int code, int a, int address) {
    put(board, DESK, code + 3, address % 256, address / 256);
    int flags = board.setRegister(3, I);
    int pc = board.setRegister(4, DESK);
    int old = board.setRegister(0, a);
    board.step();
    int told = board.setRegister(0, old);
    board.setRegister(4, pc);
    board.setRegister(3, flags);
    return told;
  }

  /** The machine writes a byte at an address (4 cycles). */
  static void write(FerriteBoard board, int address, int value) {
    one(board, STA, value, address);
  }

  /** The machine reads the byte at an address (4 cycles). */
  static int read(FerriteBoard board, int address) {
    return one(board, LDA, 0, address);
  }

  /** The machine reads the byte at an address, and writes it and 1 more (5 cycles). */
  static void increase(FerriteBoard board, int address) {
    one(board, INC, 0, address);
  }

  /** Steps, so many. */
  static int steps(FerriteBoard board, int count) {
    int cycles = 0;
    for (int i = 0; i < count; i++) cycles += board.step();
    return cycles;
  }

  static String all(Object... answers) {
    StringBuilder told = new StringBuilder();
    for (Object answer : answers) told.append(told.length() > 0 ? " " : "").append(answer);
    return told.toString();
  }
}
