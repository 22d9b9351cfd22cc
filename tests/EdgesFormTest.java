/** Section 6 of the document, sentence by sentence: the forms of lines and values, what is worked out, and error 1. */
public final class EdgesFormTest {
  private static void fails(int error, String head, String behind) {
    FerriteBoard board = new FerriteBoard();
    Check.type(board, head + behind);
    String due = error + " at " + head.length();
    Check.is("assemble of <" + head + behind + ">", board.assemble() + " at " + board.errorAt(), due);
  }

  private static void bad(String head, String behind) {
    fails(1, head, behind);
  }

  private static FerriteBoard good(String text) {
    FerriteBoard board = new FerriteBoard();
    Check.type(board, text);
    Check.is("assemble of <" + text + ">", board.assemble() + " at " + board.errorAt(), "0 at -1");
    return board;
  }

  private static void value(String value, int due) {
    Check.is("value of " + value, good("five=5\na=" + value).valueOf(1), due);
  }

  private static String times(String what, int count) {
    return what.repeat(count);
  }

  /** "# ( ) , : = + - * / % & | ^ ~ @ < > << >>", and "the longest possible token is always read" */
  private static void longestTokens() {
    value("1<<2", 4);
    value("8>>2", 2);
    value("1<< <2", 4);
    value("1<<<2", 4);
    value("1>>>2", 1);
    bad("a=1", ">2");
    bad("a=1", "< <2");
    bad("a=1<< ", "<<2");
    bad("a=", "<<2");
    bad("a=", ">>2");
    value("< <$1ff", 255);
    value("<-1", 255);
    bad("a=1<<", "<<2");
    bad("a=", "=1");
    bad("a:", ":NOP");
    bad("a=1", "@");
    bad("a=1*", "*2");
    bad("a=1&", "&2");
    bad("a=1|", "|2");
    value("1--2", 3);
    value("1-~-1", 1);
    bad("a=1+", "+2");
    for (int b = 0; b < 256; b++) {
      boolean begins = b >= '0' && b <= '9' || b >= 'A' && b <= 'Z' || b >= 'a' && b <= 'z' || "\n ;$'\".#(),:=+-*/%&|^~@<>".indexOf(b) >= 0;
      if (!begins) bad("a=5 ", "" + (char) b);
      if (!begins) bad("", (char) b + "a=5");
    }
  }

  /** "line = [ name ":" ] [ work ] | name "=" value" */
  private static void lines() {
    good("");
    good("a:");
    good("a: NOP");
    bad("a", "");
    bad("a", "\n");
    bad("a ", "NOP");
    bad("a ", "b");
    bad("a: ", "b");
    bad("a: ", "5");
    bad("a=", "");
    bad("a=", "NOP");
    bad("a=1 ", "NOP");
    bad("a=1 ", "b=2");
    bad("a=1", ",2");
    bad("a=1", ":");
    bad("a=1", "=2");
    bad("a:", "=2");
    bad("", ":");
    bad("", "=1");
    bad("", "5");
    bad("", "'a");
    bad("", "\"a\"");
    bad("", "#5");
    bad("", "(5)");
    bad("NOP ", "NOP");
    bad("NOP ", ".byte 1");
    bad(".byte 1 ", "NOP");
    bad("a: .byte 1 ", "b: NOP");
  }

  /** "work = code [ place ] | ".org" value | ... | ".else" | ".end"" */
  private static void works() {
    for (String word : new String[] {".org", ".bank", ".byte", ".word", ".fill", ".if"}) {
      bad(word, "");
      bad(word + " ", "\n");
      bad(word + " ", ",");
      bad(word + " ", "\"a\"");
      bad(word + " ", "NOP");
      bad(word + " ", "#5");
      bad(word + " 1 ", "2");
    }
    for (String word : new String[] {".org", ".bank", ".if"}) bad(word + " 1", ",2");
    for (String word : new String[] {".byte", ".word"}) {
      good(word + " 1,2");
      bad(word + " 1,", "");
      bad(word + " 1,", ",2");
      bad(word + " 1,2,3,;", "");
    }
    bad(".fill 1", "");
    bad(".fill 1 ", "2");
    bad(".fill 1,", "");
    bad(".fill 1,2", ",3");
    good(".fill 1,2");
    bad(".text \"a\"", ",\"b\"");
    bad(".text \"a\" ", "\"b\"");
    bad(".text ", "a");
    bad(".text ", "5");
    for (String word : new String[] {".else", ".end"}) {
      bad(word + " ", "1");
      bad(word + " ", "a");
      bad(word + " ", "NOP");
      bad(word + " ", ".end");
    }
  }

  /** "place = "#" value | "(" value ")" [ "," "X" ] | value [ "," "X" ]" */
  private static void places() {
    good("LDA #5\nLDA (5)\nLDA (5),X\nLDA 5\nLDA 5,X");
    bad("LDA #", "");
    bad("LDA #", "#5");
    bad("LDA #5", ",X");
    bad("LDA ", "X");
    bad("LDA ", ",X");
    bad("LDA (", ")");
    bad("LDA (", ",X");
    bad("LDA (5", ",X)");
    bad("LDA (5", "");
    bad("LDA (5)", "+1");
    bad("LDA (5)", "5");
    bad("LDA (5)", ")");
    bad("LDA (5),", "");
    bad("LDA (5),", "Y");
    bad("LDA (5),", "5");
    bad("LDA (5),X", ",X");
    bad("LDA (5),", "(X)");
    bad("LDA (5)", "X");
    bad("LDA 5,", "x");
    bad("LDA 5,", "XX");
    bad("LDA 5,", "88");
    bad("LDA 5,", "'X");
    bad("LDA 5,X ", "X");
    bad("LDA 5 ", "X");
    good("LDA #(5)+1");
    good("LDA 1*(5)+1,X");
    Check.is("\"a place that begins with a ( is the second of these\"", good("LDA (5)").byteAt(3072), 37);
    Check.is("and so it is with X", good("LDA (5),X").byteAt(3072), 38);
    Check.is("but not with a + ahead", good("LDA 0+(5)").byteAt(3072), 34);
    Check.is("nor with two of them", good("LDA ((5))").byteAt(3072), 37);
  }

  /** "value = sum { ... }   sum = product { ... }   product = single { ... }   single = ..." */
  private static void values() {
    String[] joins = {"&", "|", "^", "<<", ">>", "+", "-", "*", "/", "%"};
    for (String join : joins) {
      good("a=5" + join + "3");
      bad("a=5" + join, "");
      bad("a=5" + join, ",");
      bad("a=5" + join, ")");
      bad("a=(5" + join, ")");
      boolean alone = join.equals("-");
      if (!alone) bad("a=", join + "3");
    }
    for (String turn : new String[] {"-", "~", "<", ">"}) {
      good("a=" + turn + "5");
      bad("a=" + turn, "");
      bad("a=" + turn, ")");
      if (!turn.equals("-")) bad("a=5", turn + "3");
      bad("a=5+" + turn, "");
    }
    bad("a=(", "");
    bad("a=(", ")");
    bad("a=(5", "");
    bad("a=(5 ", "6)");
    bad("a=(5", ",6)");
    bad("a=5", ")");
    bad("a=5 ", "(6)");
    bad("a=b ", "c");
    bad("a=@", "@");
    bad("a=@ ", "5");
    bad("a=", "LDA");
    bad("a=5+", "X");
    bad("a=", "#5");
    value("(((five)))", 5);
  }

  /** "Values are worked out from left to right": sums bind more than & and the like, products more than sums. */
  private static void order() {
    value("20-8-4", 8);
    value("20-8+4", 16);
    value("100/5/2", 10);
    value("100/5*2", 40);
    value("7%4*2", 6);
    value("7*4%5", 3);
    value("2*5%4/2", 1);
    value("1+2*3", 7);
    value("2*3+1", 7);
    value("7&3+1", 4);
    value("1+7&3", 0);
    value("1|2&2", 2);
    value("6^3|1", 5);
    value("1|6^3", 4);
    value("1<<2+1", 8);
    value("1+1<<2", 8);
    value("1<<2<<1", 8);
    value("64>>2>>1", 8);
    value("64>>2<<1", 32);
    value("3&1<<2", 4);
    value("-2*3", -6);
    value("2*-3", -6);
    value("-2+3", 1);
    value("~1+1", -1);
    value("<$1ff+1", 256);
    value(">$1ff*2", 2);
    value("-(2+3)", -5);
    value("- - 5", 5);
    value("-~<>$1234", -(~0x12));
    value("(1+2)*(3+4)", 21);
  }

  /** "wrap around in 32 bits; a shift is by what the right side leaves by 32 (0 or greater), >> keeps the sign" */
  private static void thirtyTwoBits() {
    value("65535*65535", -131071);
    value("65535<<16", -65536);
    value("(1<<31)", Integer.MIN_VALUE);
    value("(1<<31)-1", Integer.MAX_VALUE);
    value("(1<<31)+(1<<31)", 0);
    value("-(1<<31)", Integer.MIN_VALUE);
    value("~(1<<31)", Integer.MAX_VALUE);
    value("(1<<31)*-1", Integer.MIN_VALUE);
    value("(1<<31)/-1", Integer.MIN_VALUE);
    value("(1<<31)%-1", 0);
    value("(1<<31)/2", -1073741824);
    value("1<<0", 1);
    value("1<<30", 1073741824);
    value("1<<32", 1);
    value("1<<33", 2);
    value("1<<63", Integer.MIN_VALUE);
    value("1<<64", 1);
    value("1<<-1", Integer.MIN_VALUE);
    value("1<<-31", 2);
    value("1<<-32", 1);
    value("1<<-33", Integer.MIN_VALUE);
    value("-1>>0", -1);
    value("-1>>31", -1);
    value("-8>>2", -2);
    value("-9>>2", -3);
    value("-8>>32", -8);
    value("-8>>34", -2);
    value("-8>>-30", -2);
    value("8>>31", 0);
    value("8>>-1", 0);
    value("(1<<31)>>31", -1);
  }

  /** "/ is cut towards 0, and % is what it leaves"; "< is the value & 255, > is its >> 8 & 255, ~ ..., - is 0 less it" */
  private static void signsOfValues() {
    value("7/2", 3);
    value("-7/2", -3);
    value("7/-2", -3);
    value("-7/-2", 3);
    value("1/2", 0);
    value("-1/2", 0);
    value("7%2", 1);
    value("-7%2", -1);
    value("7%-2", 1);
    value("-7%-2", -1);
    value("6%3", 0);
    value("0/5", 0);
    value("0%5", 0);
    value("<255", 255);
    value("<256", 0);
    value("<-256", 0);
    value("<-255", 1);
    value(">255", 0);
    value(">256", 1);
    value(">65535", 255);
    value(">(65535+1)", 0);
    value(">-1", 255);
    value(">-256", 255);
    value(">-257", 254);
    value("~0", -1);
    value("~-1", 0);
    value("-0", 0);
    value("-five", -5);
    value("-6&255", 250);
    value("-1^1", -2);
    value("-6|1", -5);
  }

  /** "@ is ADDRESS at the beginning of the work (or of the =)" */
  private static void atSign() {
    FerriteBoard board = good("a=@\nb: .byte 1,2,@-3072,@-3072\nc=@\n.org @+10\nd=@\n.fill @-3085,@-3080\ne: .word 1,@\nf: LDA @\n.text \"ab\"\ng=@");
    Check.is("@ of each =", Bench.all(board.valueOf(0), board.valueOf(2), board.valueOf(3), board.valueOf(6)), "3072 3076 3086 3096");
    Check.is("@ of .byte", Bench.all(board.byteAt(3074), board.byteAt(3075)), "0 0");
    Check.is("@ of .fill", board.byteAt(3086), 6);
    Check.is("@ of .word", board.byteAt(3089) + 256 * board.byteAt(3090), 3087);
    Check.is("@ of an instruction", board.byteAt(3092) + 256 * board.byteAt(3093), 3091);
    Check.is("@ of .if", good(".if @-3072\n.byte 1\n.else\n.byte 2\n.end").byteAt(3072), 2);
  }

  /** "a (, or a - ~ < > in front of a single, that stands within 8 such ones (of its line) already" */
  private static void nesting() {
    for (String turn : new String[] {"-", "~", "<", ">", "- ", "~ "}) {
      String blank = turn.equals("<") || turn.equals(">") ? turn + " " : turn;
      good("a=" + times(blank, 8) + "1");
      bad("a=" + times(blank, 8), blank + "1");
      good("a=" + times("(", 7) + blank + "1" + times(")", 7));
      bad("a=" + times("(", 8), blank + "1" + times(")", 8));
      bad("a=" + times(blank, 8), "(1)");
      bad("a=1+2*(3&" + times("(", 7), blank + "1");
    }
    good("a=" + times("(", 8) + "1" + times(")", 8));
    bad("a=" + times("(", 8), "(1" + times(")", 9));
    bad("a=" + times("-(", 4), "-1" + times(")", 4));
    good("a=" + times("-(", 4) + "1-1-1-1" + times(")", 4));
    bad("a=" + times("-(", 4) + "1-", "-1" + times(")", 4));
    value(times("(", 8) + "7" + times(")", 8), 7);
    value(times("-", 8) + "7", 7);
    value("1+" + times("-(", 4) + "7" + times(")", 4), 8);
    Check.is("a place of 8", good("LDA " + times("(", 8) + "7" + times(")", 8)).byteAt(3073), 7);
    Check.is("a # of 8", good("LDA #" + times("(~", 4) + "7" + times(")", 4)).byteAt(3073), 7);
    Check.is("a .byte of 8", good(".byte 1," + times("(", 8) + "7" + times(")", 8)).byteAt(3073), 7);
    // within each other alone
    good("a=" + times("(1)+", 40) + "1");
    good("a=" + times("-1+", 40) + "-1");
    good("a=1" + times("-1", 60));
    good("a=" + times("(", 8) + "1" + times(")", 8) + "+" + times("(", 8) + "1" + times(")", 8));
    good("a=" + times("-", 8) + "1+" + times("-", 8) + "1");
    bad("a=" + times("-", 8) + "1+" + times("-", 8), "-1");
    good(".byte " + times("-", 8) + "1," + times("-", 8) + "1");
    bad(".byte 1," + times("-", 8), "-1");
    bad(".word " + times("(", 8), "(1");
    bad(".fill 1," + times("(", 8), "(1");
    bad(".org " + times("(", 8), "(1");
    bad(".bank " + times("(", 8), "(1");
    bad(".if " + times("(", 8), "(1");
    bad("LDA #" + times("(", 8), "(1");
    good("LDA #" + times("-", 8) + "1");
    // the ( of a place is a ( as well
    good("LDA " + times("(", 8) + "1" + times(")", 8));
    bad("LDA " + times("(", 8), "(1");
    good("LDA (" + times("-", 7) + "1&1)");
    bad("LDA (" + times("-", 7), "-1)");
    good("LDA " + times("-", 8) + "1&1");
    // of its line: not those of another one
    good("LDA " + times("(", 8) + "1" + times(")", 8) + ",X\nLDA " + times("(", 8) + "1" + times(")", 8));
  }

  /** As many tokens as the tape has bytes. */
  private static void longestTexts() {
    FerriteBoard board = good("a=-1" + times("-1", 998));
    Check.is("2000 tokens", board.valueOf(0), -999);
    bad("a=1" + times("+1", 998) + "+", "");
    bad("a=1" + times("+1", 998), "!");
    bad("a=1" + times("+1", 998), ")");
    Check.is("values of 2000 bytes", good(".byte 1" + times(",1", 996) + ";").byteAt(3072 + 996), 1);
    bad(".byte 1" + times(",1", 996) + ",", "");
    fails(2, "", "LDAX" + times(" ", 1996));
    fails(4, "a=" + times(" ", 1997), "b");
  }

  /** "the 121st line (at its first byte; a line is one also if it is empty, but the end of the tape right behind a byte 10 begins none)" */
  private static void manyLines() {
    for (String line : new String[] {"", ";", " ", "NOP", "a:"}) {
      String first = line.equals("a:") ? "" : line;
      String lines = times(first + "\n", 119);
      good(lines + line);
      good(lines + line + "\n");
      bad(lines + line + "\n", "\n");
      bad(lines + line + "\n", " ");
      bad(lines + line + "\n", ";");
      bad(lines + line + "\n", "   NOP");
      bad(lines + line + "\n", "  !");
      bad(lines + line + "\n", times("\n", 50));
      bad(lines + "LDA #", "\n\n\n");
      bad(lines + line + "\n", "NOP\nLDA #\n");
    }
    bad(times("\n", 120), times("\n", 1880));
  }

  /** "Error 1 is the first of these on the tape", ahead of all other errors */
  private static void firstOnTheTape() {
    bad("XYZ\na=b\n.org 9999\na=1\na=1\n.end\n.byte 1/0\n", "!");
    bad("LDA ", ",\n!\n");
    bad("a=1 ", "1\n\"");
    bad("a=" + times("(", 8), "((((!");
    bad("a=5 ", "! ! !");
    bad("", "\"abc\nLDA #\n!");
    fails(2, "", "XYZ\na=b");
  }

  public static void main(String[] args) {
    longestTokens();
    lines();
    works();
    places();
    values();
    order();
    thirtyTwoBits();
    signsOfValues();
    atSign();
    nesting();
    longestTexts();
    manyLines();
    firstOnTheTape();
    Check.finish();
  }
}
