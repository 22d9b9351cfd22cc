/** "A method that throws an exception changes nothing. If several exceptions apply, the one that is named first is thrown." */
public final class EdgesRefusedTest {
  private static final String ARGUMENT = "IllegalArgumentException";
  private static final String INDEX = "IndexOutOfBoundsException";
  private static final String STATE = "IllegalStateException";
  private static final int LEAST = Integer.MIN_VALUE;
  private static final int MOST = Integer.MAX_VALUE;

  private static final String TAPE = "x=1\n.org 4080\n.word 7\n;abcdefgh";

  private interface Act {
    Object on(FerriteBoard board);
  }

  /** All of it is in use: tape, names, INPUT, OUTPUT, CALLS, HISTORY, six breaks and four watches. */
  private static FerriteBoard busy() {
    FerriteBoard board = Check.assembled("a=5\nb: LDA #3\nSTA 1792\nSTA 1793\nc: JSR d\nBRA c\nd: STA 1795\nINX\nSTX 9,X\nBNE e\nNOP\ne: BSR f\nRTS\nf: LDA 1796\nRTS\n"
        + ".org 4080\n.word b");
    for (int i = 0; i < 16; i++) board.key(20 + i);
    int[] addresses = {0, 3085, 4095, 77, 78, 79};
    for (int address : addresses) board.setBreak(address, address == 3085 ? 3 : 1000);
    board.setWatch(0, 0, true, true);
    board.setWatch(4095, 4095, true, false);
    board.setWatch(14, 14, false, true);
    board.setWatch(1800, 1900, false, false);
    Check.type(board, TAPE);
    board.run(150);
    Check.is("busy", Bench.all(board.stopped(), board.inputs() < 16, board.calls() > 0, board.outputs() > 0), "2 true true true");
    board.nmi();
    board.run(9);
    return board;
  }

  /** As busy, and INPUT is full, so that HISTORY is empty. */
  private static FerriteBoard full() {
    FerriteBoard board = busy();
    while (board.inputs() < 16) board.key(99);
    return board;
  }

  private static FerriteBoard fullTape(int length) {
    FerriteBoard board = busy();
    board.trim(0);
    for (int i = 0; i < 100; i++) board.feed(0x3b202020, 0x20202020, 0x20202020, 0x20202020, 0x2020200a);
    board.trim(length);
    board.run(30);
    return board;
  }

  /** More than 40 bytes came to OUTPUT. */
  private static FerriteBoard told() {
    FerriteBoard board = Check.ready("a: INX\nSTX 1795\nBRA a");
    board.run(400);
    Check.is("outputs", board.outputs(), 50);
    return board;
  }

  private static FerriteBoard made(int kind) {
    switch (kind) {
      case 0: return new FerriteBoard();
      case 1: return busy();
      case 2: return full();
      case 3: return fullTape(2000);
      case 4: return fullTape(1981);
      default: return told();
    }
  }

  /** All that can be told of it; much of this changes it. */
  private static String probed(FerriteBoard board) {
    StringBuilder all = new StringBuilder();
    all.append(board.digest()).append(' ').append(board.errorAt()).append(' ').append(board.history()).append(' ').append(board.stopped());
    for (int address : new int[] {0, 9, 77, 3072, 3085, 3090, 4080, 4095}) {
      all.append(' ').append(board.lineOf(address)).append(' ').append(board.timesAt(address)).append(' ').append(board.nameNear(address));
    }
    all.append(" | ").append(board.back(2)).append(' ').append(board.digest());
    for (int i = 0; i < 3; i++) all.append(' ').append(board.run(60)).append(' ').append(board.stopped()).append(' ').append(board.pc());
    for (int address : new int[] {0, 3085, 4095, 77, 78, 79, 9, 1, 5}) all.append(' ').append(board.clearBreak(address));
    all.append(' ').append(board.clearWatches()).append(' ').append(board.nmi()).append(' ').append(board.digest());
    all.append(' ').append(Check.outcome(() -> board.feed(0x0a622d31, 0x20202020, 0x20202020, 0x20202020, 0x2020200a)));
    all.append(' ').append(board.assemble()).append(' ').append(board.errorAt()).append(' ').append(board.digest());
    return all.toString();
  }

  private static void refused(String what, String exception, int kind, Act act) {
    FerriteBoard board = made(kind);
    FerriteBoard twin = made(kind);
    Check.refused(what + " on " + kind, exception, () -> act.on(board));
    Check.is(what + " on " + kind + " changed something", probed(board), probed(twin));
  }

  private static void tapeCalls() {
    refused("feed at 2000", STATE, 3, b -> b.feed(1, 2, 3, 4, 5));
    refused("feed at 1981", STATE, 4, b -> b.feed(1, 2, 3, 4, 5));
    int[] lengths = {0, -1, -1, 2000, 1981};
    for (int kind : new int[] {0, 3, 4}) {
      for (int n : new int[] {lengths[kind] + 1, -1, 2001, LEAST, MOST}) refused("trim " + n, ARGUMENT, kind, b -> b.trim(n));
    }
    refused("trim past the end", ARGUMENT, 1, b -> b.trim(TAPE.length() + 1));
    for (int n : new int[] {6, -1, LEAST, MOST}) refused("valueOf " + n, INDEX, 1, b -> b.valueOf(n));
    refused("valueOf without names", INDEX, 0, b -> b.valueOf(0));
    for (int kind = 0; kind < 2; kind++) {
      for (int address : new int[] {-1, 4096, LEAST, MOST}) {
        refused("nameNear " + address, ARGUMENT, kind, b -> b.nameNear(address));
        refused("lineOf " + address, ARGUMENT, kind, b -> b.lineOf(address));
      }
    }
  }

  private static void callsFromOutside() {
    for (int value : new int[] {-1, 256, LEAST, MOST}) {
      refused("key " + value, ARGUMENT, 1, b -> b.key(value));
      refused("key " + value + ", and there are 16", ARGUMENT, 2, b -> b.key(value));
      refused("poke value " + value, ARGUMENT, 1, b -> b.poke(9, value));
    }
    refused("the 17th key", STATE, 2, b -> b.key(0));
    refused("the 17th key", STATE, 2, b -> b.key(255));
    for (int address : new int[] {-1, 4096, 1792, 1793, 2046, 2047, LEAST, MOST}) {
      refused("poke at " + address, ARGUMENT, 1, b -> b.poke(address, 7));
      refused("poke of nothing at " + address, ARGUMENT, 1, b -> b.poke(address, 256));
    }
    for (int register : new int[] {-1, 5, LEAST, MOST}) {
      for (int value : new int[] {0, -1, 4096}) refused("setRegister " + register, INDEX, 1, b -> b.setRegister(register, value));
    }
    int[] most = {255, 255, 255, 31, 4095};
    for (int register = 0; register < 5; register++) {
      int its = register;
      for (int value : new int[] {most[register] + 1, -1, LEAST, MOST}) refused("setRegister " + register + " " + value, ARGUMENT, 1, b -> b.setRegister(its, value));
    }
  }

  private static void stepCalls() {
    for (int kind = 0; kind < 2; kind++) {
      for (int cycles : new int[] {0, -1, 5001, LEAST, MOST}) refused("run " + cycles, ARGUMENT, kind, b -> b.run(cycles));
      for (int steps : new int[] {0, -1, 201, LEAST, MOST}) refused("back " + steps, ARGUMENT, kind, b -> b.back(steps));
      // on kind 1 there are 6 breaks and 4 watches: this is named behind wrong arguments
      for (int address : new int[] {-1, 4096, LEAST, MOST}) {
        refused("setBreak at " + address, ARGUMENT, kind, b -> b.setBreak(address, 0));
        refused("setWatch from " + address, ARGUMENT, kind, b -> b.setWatch(address, 4095, true, true));
        refused("setWatch to " + address, ARGUMENT, kind, b -> b.setWatch(0, address, true, true));
        refused("setWatch both " + address, ARGUMENT, kind, b -> b.setWatch(address, address, true, true));
      }
      for (int skips : new int[] {-1, 1001, LEAST, MOST}) {
        refused("setBreak with " + skips, ARGUMENT, kind, b -> b.setBreak(9, skips));
        refused("setBreak with " + skips + " where one is", ARGUMENT, kind, b -> b.setBreak(3085, skips));
      }
      refused("setWatch backward", ARGUMENT, kind, b -> b.setWatch(1, 0, true, true));
      refused("setWatch backward", ARGUMENT, kind, b -> b.setWatch(4095, 4094, true, true));
    }
    refused("the 7th break", STATE, 1, b -> b.setBreak(9, 0));
    refused("the 7th break", STATE, 1, b -> b.setBreak(4094, 1000));
    refused("the 5th watch", STATE, 1, b -> b.setWatch(0, 0, true, true));
    refused("the 5th watch", STATE, 1, b -> b.setWatch(0, 4095, false, false));
  }

  private static void askingCalls() {
    for (int kind = 0; kind < 2; kind++) {
      for (int address : new int[] {-1, 4096, LEAST, MOST}) {
        refused("byteAt", ARGUMENT, kind, b -> b.byteAt(address));
        refused("timesAt", ARGUMENT, kind, b -> b.timesAt(address));
        refused("codeAt", ARGUMENT, kind, b -> b.codeAt(address));
        refused("lengthAt", ARGUMENT, kind, b -> b.lengthAt(address));
        refused("operandAt", ARGUMENT, kind, b -> b.operandAt(address));
        refused("isCode", ARGUMENT, kind, b -> b.isCode(address));
        for (int cycles : new int[] {1, 0}) {
          refused("cyclesToReach", ARGUMENT, kind, b -> b.cyclesToReach(address, cycles));
          refused("writesIn", ARGUMENT, kind, b -> b.writesIn(address, cycles));
        }
      }
      for (int cycles : new int[] {0, -1, 5001, LEAST, MOST}) {
        refused("cyclesToHalt", ARGUMENT, kind, b -> b.cyclesToHalt(cycles));
        refused("cyclesToReach", ARGUMENT, kind, b -> b.cyclesToReach(b.pc(), cycles));
        refused("outputsIn", ARGUMENT, kind, b -> b.outputsIn(cycles));
        refused("writesIn", ARGUMENT, kind, b -> b.writesIn(9, cycles));
      }
      for (int bank : new int[] {-1, 8, LEAST, MOST}) {
        for (int place : new int[] {0, -1, 1024}) refused("byteIn", INDEX, kind, b -> b.byteIn(bank, place));
      }
      for (int place : new int[] {-1, 1024, LEAST, MOST}) {
        refused("byteIn", ARGUMENT, kind, b -> b.byteIn(0, place));
        refused("byteIn", ARGUMENT, kind, b -> b.byteIn(7, place));
      }
      for (int back : new int[] {-1, 40, LEAST, MOST}) {
        refused("outputAt", INDEX, kind, b -> b.outputAt(back));
        refused("callAt", INDEX, kind, b -> b.callAt(back));
      }
      refused("outputAt there are not so many", INDEX, kind, b -> b.outputAt(b.outputs()));
      refused("callAt there is no such call", INDEX, kind, b -> b.callAt(b.calls()));
    }
    for (int back : new int[] {40, 49, 50, -1}) refused("outputAt of 50", INDEX, 5, b -> b.outputAt(back));
  }

  public static void main(String[] args) {
    tapeCalls();
    callsFromOutside();
    stepCalls();
    askingCalls();
    Check.finish();
  }
}
