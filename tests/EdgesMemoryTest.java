/** Sections 1 and 2 of the document, sentence by sentence, at the edges that they name. */
public final class EdgesMemoryTest {
  private static final int[] EDGES = {0, 1, 1790, 1791, 1792, 1793, 2046, 2047, 2048, 2049, 3070, 3071, 3072, 3073, 4094, 4095};

  /** "other numbers that come to be addresses stand for what they leave by 4096 (0 or greater)" */
  private static void addressesAreLeftBy4096() {
    int[] words = {0, 4095, 4096, 4097, 8191, 8192, 65535, 61440};
    for (int word : words) {
      for (int x : new int[] {0, 1, 255}) {
        Check.is("mode 3 at " + word, reads(3, word, x), mark(word % 4096));
        Check.is("mode 4 at " + word + " + " + x, reads(4, word, x), mark((word + x) % 4096));
        Check.is("mode 5 at the word " + word, reads(5, word, x), mark(word % 4096));
        Check.is("mode 6 at the word " + word + " + " + x, reads(6, word, x), mark((word + x) % 4096));
        Check.is("JMP of mode 3 to " + word, goes(Bench.JMP + 3, word, x), word % 4096);
        Check.is("JMP of mode 4 to " + word, goes(Bench.JMP + 4, word, x), (word + x) % 4096);
        Check.is("JMP of mode 5 to " + word, goes(Bench.JMP + 5, word, x), word % 4096);
        Check.is("JSR of mode 3 to " + word, goes(Bench.JSR + 3, word, x), word % 4096);
        Check.is("JSR of mode 4 to " + word, goes(Bench.JSR + 4, word, x), (word + x) % 4096);
        Check.is("JSR of mode 5 to " + word, goes(Bench.JSR + 5, word, x), word % 4096);
      }
      FerriteBoard pulled = Bench.at(3100, Bench.RTS);
      Bench.word(pulled, 300, word);
      pulled.setRegister(2, 43);
      pulled.step();
      Check.is("RTS to " + word, pulled.pc(), word % 4096);
      FerriteBoard back = Bench.at(3100, Bench.RTI);
      Bench.word(back, 301, word);
      back.setRegister(2, 43);
      back.step();
      Check.is("RTI to " + word, back.pc(), word % 4096);
      FerriteBoard vector = new FerriteBoard();
      Bench.vector(vector, 0, word);
      Bench.vector(vector, 1, word);
      Check.is("VECTOR 0 of " + word, vector.reset(), word % 4096);
      vector.setRegister(4, 500);
      vector.nmi();
      vector.step();
      Check.is("VECTOR 1 of " + word, vector.pc(), word % 4096);
    }
  }

  private static int mark(int address) {
    return address >= 1792 && address < 2048 ? 0 : 1 + address % 251;
  }

  /** What LDA in this mode reads, if there are marks at the addresses that the words come to. */
  private static int reads(int mode, int word, int x) {
    FerriteBoard board = new FerriteBoard();
    int[] near = {0, 1, 2, 254, 255, 256, 4094, 4095};
    for (int address : near) board.poke(address, mark(address));
    instruction(board, Bench.LDA + mode, word);
    board.setRegister(1, x);
    board.step();
    return board.a();
  }

  private static int goes(int code, int word, int x) {
    FerriteBoard board = new FerriteBoard();
    instruction(board, code, word);
    board.setRegister(1, x);
    board.step();
    return board.pc();
  }

  /** The word behind the CODE, or by the word at 20. */
  private static void instruction(FerriteBoard board, int code, int word) {
    boolean byWord = code % 8 >= 5;
    if (byWord) Bench.word(board, 20, word);
    Bench.put(board, 3200, code, byWord ? 20 : word % 256, byWord ? 0 : word / 256);
    board.setRegister(4, 3200);
  }

  /** "0 to 1791 is RAM. 1792 to 2047 are PORTS. 2048 to 3071 is the WINDOW. 3072 to 4095 is ROM." */
  private static void whatTheMachineCanWrite() {
    for (int address : EDGES) {
      FerriteBoard board = new FerriteBoard();
      Bench.write(board, address, 77);
      boolean stays = address < 1792 || address >= 2048 && address < 3072;
      Check.is("\"can write into RAM and into the banks\", \"into ROM is lost\" " + address, board.byteAt(address), stays ? 77 : 0);
      boolean window = address >= 2048 && address < 3072;
      for (int bank = 0; bank < 8; bank++) {
        int place = window ? address - 2048 : 0;
        Check.is("in bank " + bank, board.byteIn(bank, place), window && bank == 0 ? 77 : 0);
      }
    }
  }

  /** "It shows one of 8 banks of 1024 bytes each, the one whose number is in BANK." */
  private static void windowShowsBank() {
    for (int bank = 0; bank < 8; bank++) {
      FerriteBoard board = new FerriteBoard();
      Bench.write(board, 1792, bank);
      for (int address : new int[] {2048, 2049, 3070, 3071}) {
        Bench.write(board, address, 60 + bank);
        int due = bank < 4 ? 60 + bank : 0;
        Check.is("\"the banks 0 to 3, by the WINDOW; into the banks 4 to 7 is lost\" " + bank, board.byteAt(address), due);
        Check.is("the place in bank " + bank, board.byteIn(bank, address - 2048), due);
        Check.is("what the machine reads there", Bench.read(board, address), due);
        Check.is("poke into bank " + bank, board.poke(address, 90 + bank), due);
        Check.is("poked into bank " + bank, Bench.all(board.byteAt(address), board.byteIn(bank, address - 2048)), Bench.all(90 + bank, 90 + bank));
        for (int other = 0; other < 8; other++) {
          if (other != bank) Check.is("bank " + other, board.byteIn(other, address - 2048), 0);
        }
      }
      Check.is("beside the WINDOW", Bench.all(board.byteAt(2047), board.byteAt(3072)), "0 0");
      Bench.write(board, 1792, (bank + 1) % 8);
      Check.is("another bank shows", board.byteAt(2048), 0);
      Bench.write(board, 1792, bank);
      Check.is("and the first one again", board.byteAt(2048), 90 + bank);
    }
  }

  /** "VECTOR k, 0 to 7, is the word at 4080 + 2 * k": its byte, and 256 times the next byte. */
  private static void vectors() {
    FerriteBoard board = new FerriteBoard();
    for (int k = 0; k < 8; k++) Bench.vector(board, k, 256 * (k + 1) + 10 + k);
    Check.is("VECTOR 0", board.reset(), 266);
    board.nmi();
    board.step();
    Check.is("VECTOR 1", board.pc(), 2 * 256 + 11);
    for (int k = 0; k < 4; k++) Check.is("VECTOR of line " + k, byLine(k), 256 * (k + 3) + 12 + k);
    Bench.put(board, 700, Bench.BRK);
    board.setRegister(4, 700);
    board.step();
    Check.is("VECTOR 6", board.pc(), 7 * 256 + 16);
    FerriteBoard ends = new FerriteBoard();
    Bench.put(ends, 0, Bench.HLT);
    Bench.vector(ends, 7, 300);
    Bench.put(ends, 300, Bench.HLT);
    Check.is("VECTOR 7", Bench.all(ends.isCode(300), ends.codes()), "true 2");
  }

  private static int byLine(int k) {
    FerriteBoard board = new FerriteBoard();
    for (int i = 0; i < 8; i++) Bench.vector(board, i, 256 * (i + 1) + 10 + i);
    int line = 1 << k;
    if (k == 0) tick(board);
    if (k == 1) board.key(1);
    if (k == 2) board.signal();
    if (k == 3) Bench.write(board, 1806, 1);
    Bench.write(board, 1793, 15);
    Check.is("PENDING", board.pending(), line);
    board.setRegister(3, 0);
    board.step();
    return board.pc();
  }

  private static void tick(FerriteBoard board) {
    Bench.write(board, 1798, 1);
    Bench.write(board, 1800, 1);
  }

  /** "Z is set if it is 0, otherwise not; N is set if it is 128 or more, otherwise not." */
  private static void zeroAndNegative() {
    int[] bytes = {0, 1, 127, 128, 255};
    int[] due = {Bench.Z, 0, 0, Bench.N, Bench.N};
    for (int i = 0; i < bytes.length; i++) {
      for (int ahead : new int[] {0, 31}) {
        FerriteBoard board = Bench.at(3072, Bench.LDA + 1, bytes[i]);
        board.setRegister(3, ahead);
        board.step();
        int others = ahead & (Bench.C | Bench.I | Bench.V);
        Check.is("ZN of " + bytes[i], board.flags(), others | due[i]);
      }
    }
  }

  /** "it is written at 256 + S, then S is 1 less (behind 0 comes 255)" and the pull. */
  private static void pushAndPull() {
    for (int s : new int[] {0, 1, 2, 127, 128, 254, 255}) {
      FerriteBoard push = Bench.at(3072, Bench.PHA);
      Bench.registers(push, 99, 0, s, Bench.I);
      push.step();
      Check.is("pushed with S of " + s, Bench.all(push.byteAt(256 + s), push.s()), Bench.all(99, s == 0 ? 255 : s - 1));
      FerriteBoard pull = Bench.at(3072, Bench.PLA);
      int behind = s == 255 ? 0 : s + 1;
      pull.poke(256 + behind, 88);
      pull.setRegister(2, s);
      pull.step();
      Check.is("pulled with S of " + s, Bench.all(pull.a(), pull.s()), Bench.all(88, behind));
    }
  }

  /** "first the byte address / 256, then address % 256; it is pulled the other way round" */
  private static void addressOnTheStack() {
    for (int s : new int[] {0, 1, 2, 3, 254, 255}) {
      int[] at = new int[4];
      for (int i = 0; i < 4; i++) at[i] = 256 + (s - i + 256) % 256;
      FerriteBoard jsr = Bench.at(700, Bench.JSR + 3, 44, 1);
      jsr.setRegister(2, s);
      jsr.step();
      Check.is("JSR with S of " + s, Bench.all(jsr.byteAt(at[0]), jsr.byteAt(at[1]), jsr.s()), Bench.all(703 / 256, 703 % 256, at[2] - 256));
      FerriteBoard bsr = Bench.at(700, Bench.BSR, 20);
      bsr.setRegister(2, s);
      bsr.step();
      Check.is("BSR with S of " + s, Bench.all(bsr.byteAt(at[0]), bsr.byteAt(at[1]), bsr.s()), Bench.all(702 / 256, 702 % 256, at[2] - 256));
      FerriteBoard brk = Bench.at(700, Bench.BRK);
      Bench.registers(brk, 0, 0, s, 27);
      brk.step();
      String due = Bench.all(701 / 256, 701 % 256, 27, at[3] - 256);
      Check.is("BRK with S of " + s, Bench.all(brk.byteAt(at[0]), brk.byteAt(at[1]), brk.byteAt(at[2]), brk.s()), due);
      FerriteBoard nmi = Bench.at(700, Bench.NOP);
      Bench.registers(nmi, 0, 0, s, 27);
      nmi.nmi();
      nmi.step();
      due = Bench.all(700 / 256, 700 % 256, 27, at[3] - 256);
      Check.is("a vector with S of " + s, Bench.all(nmi.byteAt(at[0]), nmi.byteAt(at[1]), nmi.byteAt(at[2]), nmi.s()), due);
      pulledAddress(s);
    }
  }

  /** "address / 256, then address % 256", of addresses all over the memory */
  private static void allAddressesOnTheStack() {
    for (int pc = 612; pc < 4070; pc += 17) {
      if (pc > 1780 && pc < 2048) continue;
      FerriteBoard brk = Bench.at(pc, Bench.BRK);
      FerriteBoard bsr = Bench.at(pc, Bench.BSR, 0);
      FerriteBoard nmi = Bench.at(pc, Bench.NOP);
      nmi.nmi();
      brk.step();
      bsr.step();
      nmi.step();
      Check.is("pushed by BRK at " + pc, Bench.all(brk.byteAt(511), brk.byteAt(510)), Bench.all((pc + 1) / 256, (pc + 1) % 256));
      Check.is("pushed by BSR at " + pc, Bench.all(bsr.byteAt(511), bsr.byteAt(510)), Bench.all((pc + 2) / 256, (pc + 2) % 256));
      Check.is("pushed at " + pc, Bench.all(nmi.byteAt(511), nmi.byteAt(510)), Bench.all(pc / 256, pc % 256));
    }
  }

  private static void pulledAddress(int s) {
    int[] at = new int[4];
    for (int i = 1; i < 4; i++) at[i] = 256 + (s + i) % 256;
    FerriteBoard rts = Bench.at(700, Bench.RTS);
    rts.setRegister(2, s);
    rts.poke(at[1], 44);
    rts.poke(at[2], 3);
    rts.step();
    Check.is("RTS with S of " + s, Bench.all(rts.pc(), rts.s()), Bench.all(3 * 256 + 44, at[2] - 256));
    FerriteBoard rti = Bench.at(700, Bench.RTI);
    rti.setRegister(2, s);
    rti.poke(at[1], 25);
    rti.poke(at[2], 44);
    rti.poke(at[3], 3);
    rti.step();
    Check.is("RTI with S of " + s, Bench.all(rti.flags(), rti.pc(), rti.s()), Bench.all(25, 3 * 256 + 44, at[3] - 256));
  }

  /** "It is RUNNING (state 0, at first), WAITING (1), HALTED (2) or BROKEN (3)." */
  private static void states() {
    Check.is("RUNNING at first", new FerriteBoard().state(), 0);
    int[] codes = {Bench.NOP, Bench.WAI, Bench.HLT, Bench.NONE};
    for (int i = 0; i < codes.length; i++) {
      FerriteBoard board = Bench.at(3072, codes[i]);
      board.step();
      Check.is("state behind the code " + codes[i], board.state(), i);
    }
  }

  /** What is pushed behind the end of memory is what PC is: an address. */
  private static void pushedBehindTheEnd() {
    int[][] works = {{Bench.BRK}, {Bench.BSR, 4}, {Bench.JSR + 3, 4, 0}, {Bench.JSR + 4, 4, 0}, {Bench.JSR + 5, 4}};
    for (int[] work : works) {
      for (int past = 0; past < 3; past++) {
        FerriteBoard board = new FerriteBoard();
        int from = 4096 + past - work.length;
        if (from > 4095) continue;
        for (int i = 0; i < work.length; i++) board.poke((from + i) % 4096, work[i]);
        board.setRegister(4, from);
        board.step();
        Check.is("pushed by " + work[0] + " at " + from, Bench.all(board.byteAt(511), board.byteAt(510)), Bench.all(0, past));
        Check.is("its address", board.callAt(0), from);
      }
    }
  }

  public static void main(String[] args) {
    addressesAreLeftBy4096();
    whatTheMachineCanWrite();
    windowShowsBank();
    vectors();
    zeroAndNegative();
    pushAndPull();
    addressOnTheStack();
    allAddressesOnTheStack();
    states();
    pushedBehindTheEnd();
    Check.finish();
  }
}
