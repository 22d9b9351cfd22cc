/** What README.md tells: its calls, one behind another, and its table of wrong arguments. */
public final class ReadmeTest {
  private static final String ARGUMENT = "IllegalArgumentException";
  private static final String INDEX = "IndexOutOfBoundsException";
  private static final String STATE = "IllegalStateException";

  private static void type(FerriteBoard board, String text) {
    int length = 0;
    for (int i = 0; i < text.length(); i += 20) {
      int[] five = new int[5];
      for (int k = 0; k < 20; k++) {
        int b = i + k < text.length() ? text.charAt(i + k) : ' ';
        five[k / 4] |= b << 24 - k % 4 * 8;
      }
      length = board.feed(five[0], five[1], five[2], five[3], five[4]);
    }
    int kept = board.trim(length - (20 - text.length() % 20) % 20);
    Check.is("what is typed", kept, text.length());
  }

  private static FerriteBoard assembled() {
    FerriteBoard board = new FerriteBoard();
    type(board, "out = 1795 ; OUTPUT\n"
        + "start: LDX #3\n"
        + "loop: STX out\n"
        + "JSR less\n"
        + "BNE loop\n"
        + "HLT\n"
        + "less: DEX\n"
        + "RTS\n"
        + ".org 4080\n"
        + ".word start\n");
    Check.is("error", board.assemble(), 0);
    Check.is("names", board.names(), 4);
    Check.is("less", board.valueOf(3), 3083);
    Check.is("line", board.lineOf(3083), 7);
    Check.is("near", board.nameNear(3085), 3);
    return board;
  }

  private static void run(FerriteBoard board, int less) {
    Check.is("cycles", board.step(), 2);
    board.setBreak(less, 1);
    board.run(5000);
    Check.is("why", board.stopped(), 2);
    Check.is("rest", board.stepOut(), 4);
    Check.is("over", board.stepOver(), 3);
    Check.is("clearBreak", board.clearBreak(less), 0);
    board.run(5000);
    Check.is("end", board.stopped(), 4);
  }

  private static void ask(FerriteBoard board, int less) {
    Check.is("x", board.x(), 0);
    Check.is("told", board.outputs(), 3);
    Check.is("last", board.outputAt(0), 1);
    Check.is("hottest", board.hottest(), 3074);
    Check.is("code", board.isCode(less), true);
  }

  private static void goBack(FerriteBoard board) {
    Check.is("back", board.back(2), 2);
    Check.is("again", board.pc(), 3080);
    Check.is("left", board.history(), 15);
    Check.is("halt", board.cyclesToHalt(99), 3);
  }

  /** One text for each error of the table, and what stays. */
  private static void errors() {
    String[] texts = {"LDA )", "LDA", "a:\na:", "LDA a", "LDA 9999", ".org 1791\n.word 1"};
    int[] positions = {4, 0, 3, 4, 4, 10};
    FerriteBoard board = assembled();
    long ahead = board.digest();
    for (int i = 0; i < texts.length; i++) {
      type(board, texts[i]);
      Check.is("error of " + texts[i], board.assemble(), i + 1);
      Check.is("position in " + texts[i], board.errorAt(), positions[i]);
      Check.is("digest behind " + texts[i], board.digest(), ahead);
    }
  }

  private static void wrongArguments() {
    FerriteBoard board = assembled();
    Check.refusedBy(board, "trim", ARGUMENT, () -> board.trim(1));
    Check.refusedBy(board, "valueOf", INDEX, () -> board.valueOf(4));
    Check.refusedBy(board, "lineOf", ARGUMENT, () -> board.lineOf(4096));
    Check.refusedBy(board, "poke", ARGUMENT, () -> board.poke(1792, 0));
    Check.refusedBy(board, "setRegister", INDEX, () -> board.setRegister(5, 4096));
    Check.refusedBy(board, "setRegister", ARGUMENT, () -> board.setRegister(4, 4096));
    Check.refusedBy(board, "run", ARGUMENT, () -> board.run(5001));
    Check.refusedBy(board, "writesIn", ARGUMENT, () -> board.writesIn(0, 0));
    Check.refusedBy(board, "back", ARGUMENT, () -> board.back(201));
    Check.refusedBy(board, "byteIn", INDEX, () -> board.byteIn(8, 1024));
    Check.refusedBy(board, "byteIn", ARGUMENT, () -> board.byteIn(7, 1024));
    Check.refusedBy(board, "outputAt", INDEX, () -> board.outputAt(0));
    Check.refusedBy(board, "callAt", INDEX, () -> board.callAt(0));
    Check.is("clearBreak", board.clearBreak(-1), -1);
  }

  /** What is refused only as something is full: the arguments come first. */
  private static void full() {
    FerriteBoard board = assembled();
    for (int i = 0; i < 100; i++) board.feed(0, 0, 0, 0, 0);
    for (int i = 0; i < 16; i++) board.key(i);
    for (int i = 0; i < 6; i++) board.setBreak(i, 0);
    for (int i = 0; i < 4; i++) board.setWatch(i, i, true, true);
    Check.refusedBy(board, "feed", STATE, () -> board.feed(0, 0, 0, 0, 0));
    Check.refusedBy(board, "key", ARGUMENT, () -> board.key(256));
    Check.refusedBy(board, "key", STATE, () -> board.key(255));
    Check.refusedBy(board, "setBreak", ARGUMENT, () -> board.setBreak(6, 1001));
    Check.refusedBy(board, "setBreak", STATE, () -> board.setBreak(6, 1000));
    Check.is("setBreak where one is", board.setBreak(5, 1000), 6);
    Check.refusedBy(board, "setWatch", ARGUMENT, () -> board.setWatch(1, 0, true, true));
    Check.refusedBy(board, "setWatch", STATE, () -> board.setWatch(0, 1, true, true));
  }

  public static void main(String[] args) {
    FerriteBoard board = assembled();
    int less = board.valueOf(3);
    run(board, less);
    ask(board, less);
    goBack(board);
    errors();
    wrongArguments();
    full();
    Check.finish();
  }
}
