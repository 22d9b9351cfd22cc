/** Section 6 of the document up to FIRST TIME, sentence by sentence: the tape, its tokens, and what is error 1. */
public final class EdgesTextTest {
  /** Error at the first byte of what stands behind the head. */
  private static void fails(int error, String head, String behind) {
    FerriteBoard board = new FerriteBoard();
    Check.type(board, head + behind);
    String due = error + " at " + head.length();
    Check.is("assemble of <" + head + behind + ">", board.assemble() + " at " + board.errorAt(), due);
  }

  /** Error 1 there. */
  private static void bad(String head, String behind) {
    fails(1, head, behind);
  }

  private static FerriteBoard good(String text) {
    FerriteBoard board = new FerriteBoard();
    Check.type(board, text);
    Check.is("assemble of <" + text + ">", board.assemble() + " at " + board.errorAt(), "0 at -1");
    return board;
  }

  private static void value(String value, int due) {
    Check.is("value of " + value, good("a=" + value).valueOf(0), due);
  }

  /** "The tape is a row of at most 2000 bytes, at first empty, which feed and trim fill" */
  private static void tape() {
    FerriteBoard board = new FerriteBoard();
    Check.refused("at first empty", "IllegalArgumentException", () -> board.trim(1));
    for (int i = 1; i <= 100; i++) Check.is("feed", board.feed(0x3b3b3b3b, 0x3b3b3b3b, 0x3b3b3b3b, 0x3b3b3b3b, 0x3b3b3b3b), 20 * i);
    Check.refused("2020 bytes", "IllegalStateException", () -> board.feed(0, 0, 0, 0, 0));
    Check.is("trim to all 2000", board.trim(2000), 2000);
    Check.refused("2001 bytes", "IllegalArgumentException", () -> board.trim(2001));
    Check.is("trim", board.trim(1981), 1981);
    Check.refused("2001 bytes", "IllegalStateException", () -> board.feed(0, 0, 0, 0, 0));
    Check.is("trim", board.trim(1980), 1980);
    Check.is("2000 bytes", board.feed(0x0a4e4f50, 0x0a4e4f50, 0x0a4e4f50, 0x0a4e4f50, 0x0a4e4f21), 2000);
    Check.is("the 2000th byte is read", board.assemble() + " " + board.errorAt(), "1 1999");
    Check.refused("\"it is empty behind it\"", "IllegalArgumentException", () -> board.trim(1));
    Check.is("trim of nothing", board.trim(0), 0);
    Check.is("empty behind an error", board.feed(0, 0, 0, 0, 0), 20);
    Check.is("trim to nothing", board.trim(0), 0);
    Check.is("an empty tape", Bench.all(board.assemble(), board.errorAt(), board.names()), "0 -1 0");
    Check.is("empty behind it", board.feed(0, 0, 0, 0, 0), 20);
  }

  /** "Appends twenty bytes to the tape: the four bytes of each number, the highest one first." */
  private static void bytesOfNumbers() {
    for (int k = 0; k < 20; k++) {
      FerriteBoard board = new FerriteBoard();
      int[] five = {0x20202020, 0x20202020, 0x20202020, 0x20202020, 0x20202020};
      five[k / 4] = 0x20202020 ^ 0xdf << 24 - k % 4 * 8;
      board.feed(five[0], five[1], five[2], five[3], five[4]);
      Check.is("byte " + k, board.assemble() + " " + board.errorAt(), "1 " + k);
    }
  }

  /** "a line ends with the byte 10, or at the end of the tape", and ";" */
  private static void linesAndComments() {
    good("NOP");
    good("NOP\n");
    good("NOP;");
    good("NOP;\n");
    good("NOP ; a \" ' ( .foo \t\r");
    bad("NOP ", "\r\n");
    bad("", "\r");
    bad("NOP", "\t;");
    bad("", "\0");
    Check.is("a ; in a text, a sign", good(".text \"a;\"\n.byte ';,1;,2\n").byteAt(3074), (int) ';');
    Check.is("and what is behind them", good(".byte ';,1;,2\n.byte 9").byteAt(3074), 9);
    bad("LDA #;5", "");
    // the end of the line stands at its byte 10, or at the length of the tape
    bad("LDA #", "");
    bad("LDA #", "\nNOP");
    bad("LDA # ; x", "\nNOP");
    bad("LDA # ; x", "");
    bad("LDA #  ", "");
    good("  a  :  LDA  (  5  )  ,  X  ;");
    good("a:LDA(5),X");
    good("a=1");
    bad("a: LDA (5),", "");
  }

  /** "a name: a letter a to z, and letters a to z and digits behind it, at most 8 bytes in all" */
  private static void names() {
    good("a:");
    good("z:");
    good("abcdefgh:");
    good("a1234567:");
    good("z0z9a0z9=1");
    bad("", "abcdefghi:");
    bad("", "a12345678:");
    bad("a=", "abcdefghi");
    bad("a", "B:");
    bad("a", "_b:");
    bad("", "`:");
    bad("", "{:");
    bad("", "1a:");
    Check.is("names of all letters", good("aaaaaaaa=1\naaaaaaab=2\naaaaaaa=3\nb=aaaaaaab").valueOf(3), 2);
    Check.is("digits tell names apart", good("a0=1\na9=2\nb=a9*10+a0").valueOf(2), 21);
  }

  /** "a code: letters A to Z, at most 8" */
  private static void codes() {
    fails(2, "", "ABCDEFGH");
    bad("", "ABCDEFGHI");
    fails(2, "", "A");
    fails(2, "", "Z 5");
    bad("LDA 5,", "XXXXXXXXX");
    bad("LDA 5,", "XX");
    bad("", "@");
    bad("", "[");
    bad("LDAa5", ":");
    fails(2, "", "LDAA #5");
    fails(2, "", "LD #5");
    Check.is("a code ends with its letters", good("LDA5").byteAt(3073), 5);
  }

  /** "a number: 1 to 5 digits, at most 65535, or a $ and behind it 1 to 4 digits or letters a to f" */
  private static void numbers() {
    value("0", 0);
    value("9", 9);
    value("00000", 0);
    value("00009", 9);
    value("10000", 10000);
    value("65535", 65535);
    bad("a=", "65536");
    bad("a=", "99999");
    bad("a=", "000000");
    bad("a=", "100000");
    bad("a=", "0000000000000000000000");
    bad("a=", "4294967296");
    value("$0", 0);
    value("$f", 15);
    value("$a", 10);
    value("$09af", 0x9af);
    value("$ffff", 65535);
    value("$0000", 0);
    bad("a=", "$");
    bad("a=", "$ 1");
    bad("a=", "$00000");
    bad("a=", "$fffff");
    bad("a=", "$g");
    bad("a=", "$A");
    bad("a=$f", "g");
    bad("a=$f", "F");
    bad("a=1", "a");
    bad("a=1", "$1");
    bad("a=1", "'1");
    bad("a=1 ", "1");
  }

  /** "a sign: ' and behind it one byte of 32 to 126, which is its number" */
  private static void signs() {
    for (int b = 0; b < 256; b++) {
      String sign = "'" + (char) b;
      if (b >= 32 && b <= 126) value(sign, b);
      else bad("a=", sign);
    }
    bad("a=", "'");
    value("'a+1", 98);
    bad("a='a", "'");
    bad("a='a", "b");
    bad("a=''", "'");
  }

  /** "a text: " and behind it bytes of 32 to 126 but ", at most 40, and "" */
  private static void texts() {
    for (int b = 0; b < 256; b++) {
      String text = "\"x" + (char) b + "y\"";
      if (b == '"') bad(".text \"x\"", "y\"");
      else if (b >= 32 && b <= 126) Check.is("text of " + b, good(".text " + text).byteAt(3073), b);
      else bad(".text ", text);
    }
    for (int length : new int[] {0, 1, 39, 40}) {
      FerriteBoard board = good(".text \"" + "q".repeat(length) + "\"\na:");
      Check.is("a text of " + length, Bench.all(board.valueOf(0), board.byteAt(3072 + length)), Bench.all(3072 + length, 0));
    }
    bad(".text ", "\"" + "q".repeat(41) + "\"");
    bad(".text ", "\"" + "q".repeat(400) + "\"");
    bad(".text ", "\"" + "q".repeat(40));
    bad(".text ", "\"");
    bad(".text ", "\"\n\"");
    bad(".text ", "\"abc ; \n");
    bad("a=", "\"b\"");
    bad(".text", "");
    bad(".text ", "'a");
  }

  /** "a word: a point and letters a to z behind it" */
  private static void words() {
    for (String word : new String[] {".", ".a", ".or", ".orgs", ".banks", ".bytes", ".words", ".texts", ".fills", ".ifs", ".i", ".elses", ".els", ".ends",
        ".en", ".Org", ".ORG", ". org", "..org", ".abcdefghijkl"}) {
      bad("", word + " 1");
    }
    good(".org1");
    good(".byte'a");
    good(".text\"a\"");
    good(".if1\n.else\n.end");
    bad("", ".els");
    bad("NOP ", ".orgs");
  }

  public static void main(String[] args) {
    tape();
    bytesOfNumbers();
    linesAndComments();
    names();
    codes();
    numbers();
    signs();
    texts();
    words();
    Check.finish();
  }
}
