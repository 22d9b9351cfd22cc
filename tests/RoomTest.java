import java.lang.management.ManagementFactory;

/** What an object takes, that its calls take nothing more, and that no call fails at the ends of things. */
public final class RoomTest {
  private static long taken() {
    com.sun.management.ThreadMXBean beans = (com.sun.management.ThreadMXBean) ManagementFactory.getThreadMXBean();
    return beans.getThreadAllocatedBytes(Thread.currentThread().getId());
  }

  private static void calls(FerriteBoard board) {
    for (int i = 0; i < 15; i++) {
      board.feed(0x4c444123, 0x350a2020, 0x494e5820, 0x0a535458, 0x20393b0a);
      board.run(5000);
      board.stepOver();
      board.stepOut();
      board.step();
      board.back(200);
      board.cyclesToHalt(5000);
      board.cyclesToReach(4095, 5000);
      board.outputsIn(5000);
      board.writesIn(0, 5000);
      board.codes();
      board.digest();
      board.hottest();
      board.setBreak(1, 1);
      board.clearBreak(1);
    }
    board.assemble();
  }

  private static void room() {
    new FerriteBoard();
    taken();
    long ahead = taken();
    FerriteBoard board = new FerriteBoard();
    long made = taken() - ahead;
    Check.is("an object takes less than a megabyte: " + made, made < 1000000, true);
    calls(board);
    ahead = taken();
    calls(board);
    long more = taken() - ahead;
    Check.is("calls take nothing: " + more, more < 2000, true);
  }

  /** A full tape of each byte, and of each short row: no call may fail. */
  private static void tapes() {
    for (int b = 0; b < 256; b++) {
      FerriteBoard board = new FerriteBoard();
      int four = b << 24 | b << 16 | b << 8 | b;
      for (int i = 0; i < 100; i++) board.feed(four, four, four, four, four);
      int error = board.assemble();
      boolean blank = b == ' ' || b == ';';
      Check.is("a tape of " + b, error, blank ? 0 : 1);
    }
    String[] rows = {"(", "-", "a", "9", "$", "'", "\"", ".", "<", "a:", "a=", "LDA (", "1+", ".byte 1,", ".if 1\n", ".end\n", "\n", "a\n", "~~", "()"};
    for (String row : rows) {
      for (String head : new String[] {"", "a = ", ".byte ", "LDA ", "LDA #", "LDA ("}) {
        String text = head + row.repeat((2000 - head.length()) / row.length());
        FerriteBoard board = new FerriteBoard();
        Check.type(board, text);
        int error = board.assemble();
        Check.is("a tape of " + head + row, error > 0 && board.errorAt() >= 0 && board.errorAt() <= text.length(), true);
      }
    }
    longest();
  }

  private static void longest() {
    FerriteBoard board = new FerriteBoard();
    Check.type(board, ".byte " + "1,".repeat(996) + "1");
    Check.is("many values", board.assemble() + " " + board.byteAt(3072 + 996), "0 1");
    Check.type(board, ".org 0\n.word " + "1,".repeat(850) + "1");
    Check.is("many words", board.assemble() + " " + board.byteAt(1700), "0 1");
    board = new FerriteBoard();
    Check.type(board, ".word " + "1,".repeat(996) + "1");
    Check.is("too many words", board.assemble() + " " + board.errorAt(), "6 0");
    Check.type(board, ".byte 1" + "+1".repeat(996));
    Check.is("a long sum", board.assemble() + " " + board.errorAt(), "5 6");
    Check.type(board, "a = 0" + "-1".repeat(990) + "\n");
    Check.is("a long value", board.assemble() + " " + board.valueOf(0), "0 -990");
  }

  public static void main(String[] args) {
    room();
    tapes();
    Check.finish();
  }
}
