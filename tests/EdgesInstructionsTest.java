/** Section 3 of the document at the edges of bytes: each instruction against its sentence there. */
public final class EdgesInstructionsTest {
  private static final int[] EDGES = {0, 1, 2, 3, 15, 16, 17, 63, 64, 127, 128, 129, 191, 192, 240, 254, 255};
  private static final int C = Bench.C;
  private static final int Z = Bench.Z;
  private static final int I = Bench.I;
  private static final int V = Bench.V;
  private static final int N = Bench.N;

  // what the document's sentences make of A, X, FLAGS and M
  private static int a;
  private static int x;
  private static int flags;
  /** What is written at the address; -1 if nothing is. */
  private static int written;

  private static void flag(int which, boolean set) {
    if (((flags & which) != 0) != set) flags ^= which;
  }

  private static void zn(int b) {
    flag(Z, b == 0);
    flag(N, b >= 128);
  }

  private static void add(int m, int more) {
    int old = a;
    a = old + m + more;
    flag(C, a > 255);
    if (a > 255) a -= 256;
    flag(V, old < 128 && m < 128 && a >= 128 || old >= 128 && m >= 128 && a < 128);
    zn(a);
  }

  private static void compare(int register, int m) {
    flag(C, register >= m);
    zn(register - m < 0 ? register - m + 256 : register - m);
  }

  private static int shift(int way, int b) {
    int carried = way >= 2 && (flags & C) != 0 ? 1 : 0;
    boolean left = way % 2 == 0;
    flag(C, left ? b >= 128 : b % 2 == 1);
    int to = left ? b * 2 % 256 + carried : b / 2 + carried * 128;
    zn(to);
    return to;
  }

  private static void bit(int m) {
    flag(Z, (a & m) == 0);
    flag(N, (m & 128) != 0);
    flag(V, (m & 64) != 0);
  }

  /** The instructions of g 4 to 23, by what stands in the document of each g. */
  private static void moded(int g, int m) {
    int carry = (flags & C) != 0 ? 1 : 0;
    written = -1;
    switch (g) {
      case 4: a = m; zn(a); break;
      case 5: x = m; zn(x); break;
      case 6: add(m, 0); break;
      case 7: add(m, carry); break;
      case 8: add(255 - m, 1); break;
      case 9: add(255 - m, carry); break;
      case 10: compare(a, m); break;
      case 11: compare(x, m); break;
      case 12: a = a & m; zn(a); break;
      case 13: a = a | m; zn(a); break;
      case 14: a = a ^ m; zn(a); break;
      case 15: bit(m); break;
      case 16: written = a; break;
      case 17: written = x; break;
      case 18: written = m == 255 ? 0 : m + 1; zn(written); break;
      case 19: written = m == 0 ? 255 : m - 1; zn(written); break;
      default: written = shift(g - 20, m); break;
    }
  }

  /** The instructions of one byte on A and X alone. */
  private static void plain(int code) {
    int oldA = a;
    int oldX = x;
    switch (code) {
      case 0: break;
      case 6: flag(C, false); break;
      case 7: flag(C, true); break;
      case 8: flag(I, false); break;
      case 9: flag(I, true); break;
      case 10: x = a; zn(x); break;
      case 11: a = x; zn(a); break;
      case 14: a = oldX; x = oldA; zn(a); break;
      case 15: a = oldA * oldX % 256; x = oldA * oldX / 256; flag(C, x != 0); zn(a); break;
      case 22: x = x == 255 ? 0 : x + 1; zn(x); break;
      case 23: x = x == 0 ? 255 : x - 1; zn(x); break;
      case 24: case 25: case 26: case 27: a = shift(code - 24, a); break;
      case 28: a = a / 16 + a % 16 * 16; zn(a); break;
      case 29: a = (256 - a) % 256; zn(a); break;
      case 30: a = 255 - a; zn(a); break;
      default: divide(oldA, oldX); break;
    }
  }

  private static void divide(int oldA, int oldX) {
    flag(V, oldX == 0);
    if (oldX == 0) return;
    a = oldA / oldX;
    x = oldA % oldX;
    zn(a);
  }

  private static void ahead(int itsA, int itsX, int itsFlags) {
    a = itsA;
    x = itsX;
    flags = itsFlags;
  }

  private static String registers(FerriteBoard board) {
    return Bench.all(board.a(), board.x(), board.flags());
  }

  /** "(1) #n, M is n itself" for g 4 to 15, with all edges of A (or X) and M. */
  private static void immediate() {
    for (int g = 4; g <= 15; g++) {
      for (int left : EDGES) {
        FerriteBoard board = new FerriteBoard();
        for (int m : EDGES) {
          for (int before : new int[] {I, 31}) {
            Bench.put(board, 3072, 8 * g + 1, m);
            board.setRegister(4, 3072);
            int other = 255 - left;
            ahead(g == 11 ? other : left, g == 11 ? left : other, before);
            Bench.registers(board, a, x, 255, flags);
            moded(g, m);
            int took = board.step();
            Check.is("g " + g + " of " + left + " and " + m + " with " + before, registers(board) + " " + took, Bench.all(a, x, flags, 2));
          }
        }
      }
    }
  }

  private static void single() {
    int[] codes = {0, 6, 7, 8, 9, 10, 11, 14, 15, 22, 23, 24, 25, 26, 27, 28, 29, 30, 31};
    for (int code : codes) {
      for (int left : EDGES) {
        FerriteBoard board = Bench.at(3072, code);
        for (int right : EDGES) {
          for (int before : new int[] {I, 31}) {
            board.setRegister(4, 3072);
            ahead(left, right, before);
            Bench.registers(board, a, x, 255, flags);
            plain(code);
            int took = board.step();
            String due = Bench.all(a, x, flags, code == 15 || code == 31 ? 9 : 1, 3073, 255);
            Check.is("code " + code + " of " + left + " and " + right + " with " + before, Bench.all(registers(board), took, board.pc(), board.s()), due);
          }
        }
      }
    }
  }

  /** All g from 4 to 23 in modes 2 to 6: where M is, what is written there, and the cycles. */
  private static void byAddress() {
    int[] bytesOf = {0, 0, 2, 3, 3, 2, 2};
    int[] wordsOf = {0, 0, 0, 0, 0, 2, 2};
    for (int g = 4; g <= 23; g++) {
      for (int mode = 2; mode <= 6; mode++) {
        for (int m : new int[] {0, 1, 64, 127, 128, 255}) {
          for (int itsX : new int[] {0, 3, 255}) {
            FerriteBoard board = Bench.at(3072, 8 * g + mode, 255, 1);
            board.poke(255, 200);
            board.poke(0, 2);
            int address = mode == 2 ? 255 : mode == 3 ? 511 : mode == 4 ? 511 + itsX : mode == 5 ? 712 : 712 + itsX;
            board.poke(address, m);
            if (mode == 2) board.poke(0, 9);
            ahead(129, itsX, C | I);
            Bench.registers(board, a, x, 9, flags);
            moded(g, m);
            int took = board.step();
            int touched = g >= 18 ? 2 : 1;
            String due = Bench.all(a, x, flags, bytesOf[mode] + wordsOf[mode] + touched, 3072 + bytesOf[mode], written < 0 ? m : written);
            String got = Bench.all(registers(board), took, board.pc(), board.byteAt(address));
            Check.is("g " + g + " in mode " + mode + " with " + m + " and X " + itsX, got, due);
          }
        }
      }
    }
  }

  /** "5: the address is the word at n and (n + 1) % 256." */
  private static void wordOfModeFive() {
    for (int n : new int[] {0, 1, 127, 254, 255}) {
      int next = n == 255 ? 0 : n + 1;
      for (int mode = 5; mode <= 6; mode++) {
        FerriteBoard board = Bench.at(3072, Bench.LDA + mode, n);
        board.poke(n, 44);
        board.poke(next, 2);
        board.poke(256, 7);
        board.setRegister(1, 6);
        board.poke(512 + 44 + (mode == 6 ? 6 : 0), 99);
        board.step();
        Check.is("mode " + mode + " by " + n, board.a(), 99);
      }
    }
  }

  /** "Bytes of instructions that stand in PORTS are taken as 0, and nothing is done by that." */
  private static void instructionsInPorts() {
    FerriteBoard board = new FerriteBoard();
    board.key(9);
    Bench.write(board, 1792, 5);
    Bench.write(board, 1793, 10);
    Bench.write(board, 1801, 1);
    board.setRegister(4, 1792);
    for (int address = 1792; address < 2048; address++) Check.is("a NOP in PORTS", board.step(), 1);
    Check.is("behind them", Bench.all(board.pc(), board.instructions(), board.inputs(), board.bank()), Bench.all(2048, 259, 1, 5));
    Check.is("RANDOM is as it was", Bench.read(board, 1801), (257 / 2 ^ 46080) % 256);
    FerriteBoard two = new FerriteBoard();
    Bench.write(two, 1792, 5);
    two.poke(1791, Bench.LDA + 1);
    two.setRegister(0, 9);
    two.setRegister(4, 1791);
    two.step();
    Check.is("n in PORTS", Bench.all(two.a(), two.pc(), two.operandAt(1791)), "0 1793 0");
    FerriteBoard three = new FerriteBoard();
    Bench.write(three, 1792, 5);
    Bench.put(three, 1790, Bench.LDA + 3, 40);
    three.poke(40, 8);
    three.setRegister(4, 1790);
    three.step();
    Check.is("h in PORTS", Bench.all(three.a(), three.pc(), three.operandAt(1790)), "8 1793 40");
    FerriteBoard both = new FerriteBoard();
    both.key(77);
    Bench.put(both, 1791, Bench.JMP + 3);
    Bench.write(both, 1793, 7);
    both.setRegister(4, 1791);
    both.step();
    Check.is("n and h in PORTS", both.pc(), 0);
    FerriteBoard window = new FerriteBoard();
    Bench.write(window, 1792, 3);
    Bench.put(window, 2048, Bench.INX);
    window.setRegister(4, 2047);
    Bench.steps(window, 2);
    Check.is("from PORTS into the WINDOW", Bench.all(window.pc(), window.x()), "2049 1");
  }

  /** The bytes of an instruction go on from one part of memory into the next. */
  private static void instructionsAcross() {
    FerriteBoard rom = new FerriteBoard();
    Bench.write(rom, 1792, 2);
    Bench.put(rom, 3071, Bench.LDA + 3, 33, 1);
    rom.poke(289, 66);
    rom.setRegister(4, 3071);
    rom.step();
    Check.is("from the WINDOW into ROM", Bench.all(rom.a(), rom.pc(), rom.codeAt(3071), rom.lengthAt(3071), rom.operandAt(3071)), "66 3074 35 3 289");
    for (int from = 4093; from < 4096; from++) {
      FerriteBoard end = new FerriteBoard();
      end.poke(289, 66);
      int[] bytes = {Bench.LDA + 3, 33, 1};
      for (int i = 0; i < 3; i++) end.poke((from + i) % 4096, bytes[i]);
      end.setRegister(4, from);
      end.step();
      Check.is("behind 4095", Bench.all(end.a(), end.pc(), end.operandAt(from)), Bench.all(66, (from + 3) % 4096, 289));
    }
  }

  /** What an instruction pushes over its own bytes changes nothing of where it goes. */
  private static void instructionsOnTheStack() {
    FerriteBoard jsr = Bench.at(509, Bench.JSR + 3, 188, 2);
    jsr.step();
    Check.is("JSR at 509", Bench.all(jsr.pc(), jsr.byteAt(511), jsr.byteAt(510), jsr.s()), "700 2 0 253");
    FerriteBoard bsr = Bench.at(510, Bench.BSR, 20);
    bsr.step();
    Check.is("BSR at 510", Bench.all(bsr.pc(), bsr.byteAt(511), bsr.byteAt(510), bsr.s()), "532 2 0 253");
    FerriteBoard brk = Bench.at(511, Bench.BRK);
    Bench.vector(brk, 6, 700);
    brk.step();
    Check.is("BRK at 511", Bench.all(brk.pc(), brk.byteAt(511), brk.byteAt(510), brk.byteAt(509)), "700 2 0 4");
    FerriteBoard sta = Bench.at(3000, Bench.STA + 3, 185, 11);
    sta.setRegister(0, 66);
    sta.step();
    Check.is("STA over its own bytes", Bench.all(sta.pc(), sta.byteAt(3001), sta.codeAt(3000)), "3003 66 131");
  }

  /** "PC becomes PC + n (n - 256, if n is 128 or more)", and where operandAt() says it goes. */
  private static void branches() {
    for (int code = 208; code <= 217; code++) {
      for (int n : new int[] {0, 1, 126, 127, 128, 129, 254, 255}) {
        for (int from : new int[] {0, 100, 600, 4000, 4094, 4095}) {
          for (int set : new int[] {0, 31}) {
            FerriteBoard board = new FerriteBoard();
            board.poke(from, code);
            board.poke((from + 1) % 4096, n);
            board.setRegister(4, from);
            board.setRegister(3, set);
            int took = board.step();
            int to = (from + 2 + (n >= 128 ? n - 256 : n) + 4096) % 4096;
            boolean goes = code >= 216 || (code % 2 == 0) == (set == 31);
            String due = Bench.all(goes ? to : (from + 2) % 4096, goes ? code == 217 ? 5 : 3 : 2, to, set);
            Check.is("code " + code + " " + n + " at " + from + " with " + set, Bench.all(board.pc(), took, board.operandAt(from), board.flags()), due);
          }
        }
      }
    }
  }

  /** Each branch looks at its own flag alone. */
  private static void branchFlags() {
    int[] looked = {Z, C, N, V};
    for (int code = 208; code < 216; code++) {
      for (int set = 0; set < 32; set++) {
        FerriteBoard board = Bench.at(3072, code, 10);
        board.setRegister(3, set);
        board.step();
        boolean is = (set & looked[(code - 208) / 2]) != 0;
        Check.is("code " + code + " with FLAGS " + set, board.pc(), is == (code % 2 == 0) ? 3084 : 3074);
      }
    }
  }

  /** "FLAGS are pulled (the byte & 31)" and what is pushed of them. */
  private static void flagsOnTheStack() {
    for (int b : new int[] {0, 1, 4, 31, 32, 33, 63, 224, 255}) {
      FerriteBoard plp = Bench.at(3072, Bench.PLP);
      plp.poke(500, b);
      plp.setRegister(2, 243);
      plp.setRegister(3, 31 - b % 32);
      Check.is("PLP of " + b, Bench.all(plp.step(), plp.flags(), plp.s()), Bench.all(2, b % 32, 244));
      FerriteBoard rti = Bench.at(3072, Bench.RTI);
      rti.poke(500, b);
      rti.setRegister(2, 243);
      rti.setRegister(3, 31 - b % 32);
      Check.is("RTI of " + b, Bench.all(rti.step(), rti.flags(), rti.s()), Bench.all(4, b % 32, 246));
    }
    for (int set : new int[] {0, 1, 27, 31}) {
      FerriteBoard php = Bench.at(3072, Bench.PHP);
      php.setRegister(3, set);
      php.step();
      Check.is("PHP", Bench.all(php.byteAt(511), php.flags()), Bench.all(set, set));
      FerriteBoard brk = Bench.at(3072, Bench.BRK);
      brk.setRegister(3, set);
      brk.step();
      Check.is("BRK pushes FLAGS, then I is set", Bench.all(brk.byteAt(509), brk.flags()), Bench.all(set, set | I));
    }
  }

  /** PHA, PLA, PHX, PLX, TSX, TXS with the edges of a byte. */
  private static void stackAndS() {
    for (int b : EDGES) {
      ahead(0, 0, 31);
      zn(b);
      FerriteBoard pla = Bench.at(3072, Bench.PHX, Bench.PLA);
      Bench.registers(pla, 7, b, 0, 31);
      Bench.steps(pla, 2);
      Check.is("PHX, PLA of " + b, Bench.all(pla.a(), pla.x(), pla.s(), pla.flags(), pla.byteAt(256)), Bench.all(b, b, 0, flags, b));
      FerriteBoard plx = Bench.at(3072, Bench.PHA, Bench.PLX);
      Bench.registers(plx, b, 7, 0, 31);
      Bench.steps(plx, 2);
      Check.is("PHA, PLX of " + b, Bench.all(plx.a(), plx.x(), plx.s(), plx.flags(), plx.byteAt(256)), Bench.all(b, b, 0, flags, b));
      FerriteBoard tsx = Bench.at(3072, 12);
      Bench.registers(tsx, 7, 8, b, 31);
      tsx.step();
      Check.is("TSX of " + b, Bench.all(tsx.a(), tsx.x(), tsx.s(), tsx.flags()), Bench.all(7, b, b, flags));
      FerriteBoard txs = Bench.at(3072, 13);
      Bench.registers(txs, 7, b, 9, 27);
      txs.step();
      Check.is("TXS of " + b, Bench.all(txs.a(), txs.x(), txs.s(), txs.flags()), Bench.all(7, b, b, 27));
      FerriteBoard pha = Bench.at(3072, Bench.PHA, Bench.PHX);
      Bench.registers(pha, b, 255 - b, 200, 27);
      Bench.steps(pha, 2);
      Check.is("pushing leaves FLAGS " + b, Bench.all(pha.a(), pha.x(), pha.flags(), pha.byteAt(456), pha.byteAt(455)), Bench.all(b, 255 - b, 27, b, 255 - b));
    }
  }

  /** "An instruction takes one cycle for each byte of itself, for each byte that it reads or writes elsewhere, ..." */
  private static void cyclesOfAll() {
    int[] plain = {1, 1, 1, 3, 4, 6, 1, 1, 1, 1, 1, 1, 1, 1, 1, 9, 2, 2, 2, 2, 2, 2, 1, 1, 1, 1, 1, 1, 1, 1, 1, 9};
    int[] reading = {0, 2, 3, 4, 4, 5, 5, 0};
    for (int code = 0; code < 256; code++) {
      int g = code / 8;
      int m = code % 8;
      int due = 1;
      if (g < 4) due = plain[code];
      else if (g < 16 && m >= 1 && m <= 6) due = reading[m];
      else if (g < 18 && m >= 2 && m <= 6) due = reading[m];
      else if (g >= 18 && g < 24 && m >= 2 && m <= 6) due = reading[m] + 1;
      else if (g == 24 && m >= 3 && m <= 5) due = m == 5 ? 4 : 3;
      else if (g == 25 && m >= 3 && m <= 5) due = m == 5 ? 6 : 5;
      else if (g == 26) due = 2 + m % 2;
      else if (code == Bench.BRA) due = 3;
      else if (code == Bench.BSR) due = 5;
      FerriteBoard board = Bench.at(3072, code, 30, 0);
      Check.is("cycles of the code " + code, Bench.all(board.step(), board.cycles()), Bench.all(due, due));
    }
  }

  public static void main(String[] args) {
    immediate();
    single();
    byAddress();
    wordOfModeFive();
    instructionsInPorts();
    instructionsAcross();
    instructionsOnTheStack();
    branches();
    branchFlags();
    flagsOnTheStack();
    stackAndS();
    cyclesOfAll();
    Check.finish();
  }
}
