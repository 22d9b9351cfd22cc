import java.nio.charset.StandardCharsets;

/** What the tests share: telling wrong answers, and bringing texts onto a tape. */
final class Check {
  private static int wrong = 0;

  private Check() {}

  interface Call {
    Object run();
  }

  static void is(String what, Object got, Object want) {
    Object due = want instanceof Integer && got instanceof Long ? Long.valueOf((Integer) want) : want;
    if (due.equals(got)) return;
    wrong++;
    if (wrong <= 40) System.out.println(what + " answered " + got + ", due is " + want);
  }

  /** The simple name of what the call throws, or the text of its answer. */
  static String outcome(Call call) {
    try {
      return String.valueOf(call.run());
    } catch (Throwable thrown) {
      return "throws." + thrown.getClass().getSimpleName();
    }
  }

  static void refused(String what, String exception, Call call) {
    is(what, outcome(call), "throws." + exception);
  }

  /** A call that throws changes nothing: neither what the digest tells, nor the rest asked here. */
  static void refusedBy(FerriteBoard board, String what, String exception, Call call) {
    String ahead = everything(board);
    refused(what, exception, call);
    is(what + " left behind", everything(board), ahead);
  }

  static String everything(FerriteBoard board) {
    StringBuilder all = new StringBuilder();
    all.append(board.digest()).append(' ').append(board.errorAt()).append(' ').append(board.history());
    all.append(' ').append(board.stopped()).append(' ').append(board.hottest());
    for (int i : new int[] {0, 5, 2048, 3072, 3079, 4080, 4095}) all.append(' ').append(board.lineOf(i));
    return all.toString();
  }

  /** Text onto the tape. */
  static void type(FerriteBoard board, String text) {
    byte[] bytes = text.getBytes(StandardCharsets.ISO_8859_1);
    int length = 0;
    for (int i = 0; i < bytes.length; i += 20) {
      int[] five = new int[5];
      for (int k = 0; k < 20; k++) {
        int b = i + k < bytes.length ? bytes[i + k] & 255 : 0;
        five[k / 4] |= b << 24 - k % 4 * 8;
      }
      length = board.feed(five[0], five[1], five[2], five[3], five[4]);
    }
    if (length != bytes.length) board.trim(bytes.length);
  }

  static FerriteBoard assembled(String text) {
    FerriteBoard board = new FerriteBoard();
    type(board, text);
    int error = board.assemble();
    if (error != 0) is("assemble() of " + text + " at " + board.errorAt(), error, 0);
    return board;
  }

  /** As assembled, with PC at 3072 and I as it was: a vector need not be written. */
  static FerriteBoard ready(String text) {
    FerriteBoard board = assembled(text);
    board.setRegister(4, 3072);
    return board;
  }

  static void finish() {
    System.out.println(wrong == 0 ? "all answers are as due" : wrong + " answers are not as due");
    if (wrong != 0) System.exit(1);
  }
}
