/** Section 6, and promises 2 to 9: the tape, the text, its errors, its names and lines. */
public final class TextTest {
  /** What assemble() answers, and errorAt(). */
  private static void error(String text, int error, int at) {
    FerriteBoard board = new FerriteBoard();
    Check.type(board, text);
    Check.is("assemble of <" + text + ">", board.assemble() + " at " + board.errorAt(), error + " at " + at);
  }

  private static void good(String text) {
    error(text, 0, -1);
  }

  /** The bytes at an address behind the text. */
  private static void bytes(String text, int address, int... due) {
    FerriteBoard board = Check.assembled(text);
    for (int i = 0; i < due.length; i++) {
      Check.is("byte " + (address + i) + " of <" + text + ">", board.byteAt(address + i), due[i]);
    }
    Check.is("behind the bytes of <" + text + ">", board.byteAt((address + due.length) % 4096), 0);
  }

  private static void value(String value, int due) {
    FerriteBoard board = Check.assembled("five = 5\nv = " + value);
    Check.is("value of " + value, board.valueOf(1), due);
  }

  private static String times(String what, int count) {
    return what.repeat(count);
  }

  private static void tape() {
    FerriteBoard board = new FerriteBoard();
    Check.is("feed", board.feed(0x6162203d, 0x20240a3b, -1, 0, 0x0a20200a), 20);
    Check.is("feed again", board.feed(0, 0, 0, 0, 0), 40);
    Check.is("trim", board.trim(4), 4);
    Check.is("trim to all", board.trim(4), 4);
    Check.refusedBy(board, "trim", "IllegalArgumentException", () -> board.trim(5));
    Check.refusedBy(board, "trim", "IllegalArgumentException", () -> board.trim(-1));
    Check.is("cut off", board.assemble() + " " + board.errorAt(), "1 4");
    Check.is("empty behind it", board.trim(0), 0);
    Check.refused("trim", "IllegalArgumentException", () -> board.trim(1));
    for (int i = 1; i <= 100; i++) Check.is("feed " + i, board.feed(0x0a0a0a0a, 0x20202020, 0x20202020, 0x20202020, 0x20202020), 20 * i);
    Check.refusedBy(board, "feed", "IllegalStateException", () -> board.feed(1, 2, 3, 4, 5));
    Check.is("trim", board.trim(1981), 1981);
    Check.refused("feed", "IllegalStateException", () -> board.feed(1, 2, 3, 4, 5));
    Check.is("trim", board.trim(1980), 1980);
    Check.is("feed to the brim", board.feed(1, 2, 3, 4, 5), 2000);
    board.trim(0);
    board.feed(0x6161616c, 0x3d20313b, 0x00ff7f80, 0x41270a0a, 0x613d390a);
    Check.is("any bytes in a comment", board.assemble() + " " + board.names(), "0 2");
    Check.is("bytes in order", board.valueOf(0) + " " + board.valueOf(1), "1 9");
  }

  /** What was trimmed away is not looked at, though it may stand there still. */
  private static void trimmed() {
    String text = "abc: LDA #$12>>2 ; x\n.text \"ab\"\n.byte 'x, 12<<345, <-abc\n.org 1234\n";
    for (int k = 0; k <= text.length(); k++) {
      FerriteBoard trimmed = new FerriteBoard();
      FerriteBoard typed = new FerriteBoard();
      Check.type(trimmed, text);
      trimmed.trim(k);
      if (k > 0) Check.type(typed, text.substring(0, k));
      String due = typed.assemble() + " " + typed.errorAt() + " " + typed.names();
      Check.is("trimmed to " + k, trimmed.assemble() + " " + trimmed.errorAt() + " " + trimmed.names(), due);
    }
  }

  private static void tokens() {
    good("");
    good("\n\n  \n;\n ; x\n");
    good("abcdefg8: NOP");
    good("az: JMP az");
    good("zzz0z: ; z");
    error("abcdefgh9: NOP", 1, 0);
    error(" LDAABCDEF", 1, 1);
    error("LDAABCDE", 2, 0);
    error("a1=65535\nb=65536", 1, 11);
    error("a=00001\nb=000001", 1, 10);
    error("b=123456", 1, 2);
    bytes(".word $ffff,$a,$0b", 3072, 255, 255, 10, 0, 11);
    error(".word $", 1, 6);
    error(".word $12345", 1, 6);
    error(".word $00001", 1, 6);
    good(".word $0001");
    error("a = 1>>", 1, 7);
    error("a = 1>", 1, 5);
    error("a = <", 1, 5);
    error(".word $fg", 1, 8);
    error(".word $F", 1, 6);
    error(".byte 1a", 1, 7);
    bytes(".byte ';,''," + "'\",' ,'~", 3072, ';', 39, '"', ' ', '~');
    error(".byte '", 1, 6);
    error(".byte '\n", 1, 6);
    error(".byte '\u007f", 1, 6);
    error(".byte '\t", 1, 6);
    bytes(".text \"a;b c\" ; \"", 3072, 'a', ';', 'b', ' ', 'c');
    good(".text \"" + times("x", 40) + "\"");
    error(".text \"" + times("x", 41) + "\"", 1, 6);
    error(".text \"abc", 1, 6);
    error(".text \"abc\n\"", 1, 6);
    error(".text \"ab\u0080\"", 1, 6);
    good(".text \"\"");
    error(".foo", 1, 0);
    error(".", 1, 0);
    error(".Byte 1", 1, 0);
    error(".bytes 1", 1, 0);
    good(".byte1");
    good("a:LDA#5");
    error("a:\tNOP", 1, 2);
    error("NOP\r\n", 1, 3);
    error("NOP !", 1, 4);
    error("NOP \u00e9", 1, 4);
    good("lda: LDAlda");
    bytes(".byte 1<<3, 17>>2, >$1234, <$1234", 3072, 8, 4, 0x12, 0x34);
    error(".byte 1>3", 1, 7);
    error(".byte 1 < < 3", 1, 8);
    error(".byte <<3", 1, 6);
    good(".byte < <3");
  }

  private static void forms() {
    error("a", 1, 1);
    error("a\nb: NOP", 1, 1);
    error("a NOP", 1, 2);
    error("a: b: NOP", 1, 3);
    error("a = ", 1, 4);
    error("a = ; 5\n", 1, 7);
    error("a = 5 NOP", 1, 6);
    error("a = 5 ,", 1, 6);
    error("5", 1, 0);
    error("NOP NOP", 1, 4);
    error("LDA #", 1, 5);
    error("LDA # ;c\nNOP", 1, 8);
    error("LDA #5,X", 1, 6);
    error("LDA 5,", 1, 6);
    error("LDA 5,A", 1, 6);
    error("LDA 5,XX", 1, 6);
    error("LDA 5,x", 1, 6);
    error("LDA 5,X,X", 1, 7);
    error("LDA (5)+1", 1, 7);
    error("LDA (5", 1, 6);
    error("LDA ()", 1, 5);
    good("LDA (5) , X");
    good("LDA 1+(5)");
    good("a: ; nothing");
    error(": NOP", 1, 0);
    error(".org", 1, 4);
    error(".org 5,6", 1, 6);
    error(".byte 1,", 1, 8);
    error(".byte ,1", 1, 6);
    error(".fill 1", 1, 7);
    error(".fill 1,2,3", 1, 9);
    error(".text 5", 1, 6);
    error(".text \"a\",5", 1, 9);
    error(".else 1", 1, 6);
    error(".end .end", 1, 5);
    error(".if", 1, 3);
    error("a = .byte", 1, 4);
    error("a = 1 +", 1, 7);
    error("a = 1 ~ 2", 1, 6);
    error("a = 1 2", 1, 6);
    error("a = )", 1, 4);
    error("a = X", 1, 4);
    error(".byte \"a\"", 1, 6);
    // the first one on the tape
    error("LDA #\n.foo\n", 1, 5);
    error("XYZ\nb\n", 1, 5);
  }

  private static void nesting() {
    good("a = " + times("(", 8) + "1" + times(")", 8));
    error("a = " + times("(", 9) + "1" + times(")", 9), 1, 12);
    good("a = " + times("-", 8) + "1");
    error("a = " + times("-", 9) + "1", 1, 12);
    error("a = " + times("(-", 4) + "~1" + times(")", 4), 1, 12);
    good("a = " + times("(-", 4) + "1" + times(")", 4) + "+(-1)");
    good("LDA " + times("(", 8) + "1" + times(")", 8));
    error("LDA " + times("(", 9) + "1" + times(")", 9), 1, 12);
    error("LDA #" + times("- ", 9) + "1", 1, 21);
    good("LDA #" + times("(", 8) + "1" + times(")", 8));
    good(".byte " + times("(", 8) + "1" + times(")", 8) + "," + times("-", 8) + "1");
    good(".fill " + times("(", 8) + "1" + times(")", 8) + "," + times("-", 8) + "1");
    error(".fill 1," + times("-", 9) + "1", 1, 16);
    error(".word 1," + times("~", 9) + "1", 1, 16);
  }

  private static void manyLines() {
    good(times("\n", 120));
    error(times("\n", 120) + " ", 1, 120);
    error(times("NOP\n", 120) + "  .foo", 1, 480);
    good(times("\n", 119) + "NOP");
    error(times("\n", 121), 1, 120);
    error(times("\n", 119) + "LDA #\n\n", 1, 124);
    FerriteBoard board = Check.assembled(times("\n", 119) + "NOP\n");
    Check.is("the 120th line", board.lineOf(3072), 120);
  }

  private static void values() {
    value("1+2*3", 7);
    value("(1+2)*3", 9);
    value("2*3&4+3", 6);
    value("1|2^3<<1", 0);
    value("10-3-2", 5);
    value("100/7/2", 7);
    value("100%7*2", 4);
    value("7*3%5", 1);
    value("-7/2", -3);
    value("-7%4", -3);
    value("7/-2", -3);
    value("~0", -1);
    value("~five", -6);
    value("-five - -five", 0);
    value("<-1", 255);
    value(">-1", 255);
    value(">$1234+1", 0x13);
    value("<(five-6)", 255);
    value("1<<31", Integer.MIN_VALUE);
    value("1<<33", 2);
    value("1<<-1", Integer.MIN_VALUE);
    value("-8>>1", -4);
    value("-8>>33", -4);
    value("-1>>-1", -1);
    value("65535*65535", -131071);
    value("(1<<31)/-1", Integer.MIN_VALUE);
    value("(1<<31)%-1", 0);
    value("(1<<31)-1", Integer.MAX_VALUE);
    value("'A", 65);
    value("$ff^$f", 240);
    value("@", 3072);
    FerriteBoard board = Check.assembled(".org 10\n.byte 1,2,@,@\na: .byte @\nb = @*2\n.fill @-10,1\nc = @");
    Check.is("@", board.byteAt(12) + " " + board.byteAt(13) + " " + board.byteAt(14), "10 10 14");
    Check.is("@ of =", board.valueOf(0) + " " + board.valueOf(1) + " " + board.valueOf(2), "14 30 20");
  }

  private static void firstTime() {
    error("a = 1\na = b", 3, 6);
    error("a: NOP\na: NOP", 3, 7);
    error("a = a", 4, 4);
    error("a = c + b", 4, 4);
    error("a = 1 + b/0", 4, 8);
    error("b = 0\na = 1/b", 5, 10);
    error("a = (1%0)", 5, 4);
    error(".org b\nb = 1", 4, 5);
    error(".org 4096", 5, 5);
    error(".org -1", 5, 5);
    good(".org 4095\nNOP");
    error(".bank 8", 5, 6);
    error(".bank -1", 5, 6);
    good(".bank 7");
    error(".org 1/0", 5, 5);
    error(".bank b", 4, 6);
    error(".if b\n.end\nb=1", 4, 4);
    error(".if 1/0\n.end", 5, 4);
    error(".fill 1025,1", 5, 6);
    error(".fill -1,1", 5, 6);
    good(".org 0\n.fill 1024,1");
    error(".fill b,1/0\nb=1", 4, 6);
    error(".fill 1,1/0\nx", 1, 13);
    error(".fill 1,1/0\nb = c", 5, 8);
    error(".fill 1,c/0\nb = c", 4, 16);
    error(".byte c/0\nLDQ\nc = 1", 2, 10);
    error(".byte 1,2/0\nLDQ", 5, 8);
    error(".byte c,2/0\nc = 1", 5, 8);
    error("LDA 1/0\nLDQ", 5, 4);
    error("LDQ 1/0", 2, 0);
    error("NOP 1/0", 2, 0);
    error("LDA", 2, 0);
    error("STA #1", 2, 0);
    error("JMP #1", 2, 0);
    error("JMP (1),X", 2, 0);
    good("JMP 1,X");
    good("JSR (1)");
    error("INC #1", 2, 0);
    error("SHL #1", 2, 0);
    error("BEQ", 2, 0);
    error("BEQ #1", 2, 0);
    error("BEQ 3072,X", 2, 0);
    error("BEQ (3072)", 2, 0);
    error("X", 2, 0);
    error("a: NOPE", 2, 3);
    error("INX 1", 2, 0);
    error("a: HLT\na: XYZ", 3, 7);
    bytes("a: LDA a-3072\nb: LDA b", 3072, 34, 0, 35, 2, 12);
  }

  private static void leftOut() {
    bytes(".if 0\n.byte 1\n.else\n.byte 2\n.end\n.byte 3", 3072, 2, 3);
    bytes(".if -1\n.byte 1\n.else\n.byte 2\n.end\n.byte 3", 3072, 1, 3);
    bytes(".if 0\na: XYZ q\nb = b\n.org 9999\n.bank 8\n.end\n.byte 3", 3072, 3);
    bytes(".if 0\n.if q\n.byte 1\n.else\n.byte 2\n.end\n.else\n.byte 3\n.end", 3072, 3);
    bytes(".if 1\n.if 0\n.byte 1\n.else\n.byte 2\n.end\n.else\n.byte 3\n.end", 3072, 2);
    error(".if 0\n.byte\n.end", 1, 11);
    error(".end", 3, 0);
    error("a: .else", 3, 3);
    error("a: NOP\na: .end", 3, 7);
    error(".if 1\n.else\n.else\n.end", 3, 12);
    error(".if 0\n.if 1\n.else\n.else\n.end\n.end", 3, 18);
    error(".if 1\nNOP\n", 3, 10);
    error(".if 1\nNOP ; x", 3, 13);
    error(".if 1\n.if 1\n.if 1\n.if 1\n.if q\n", 3, 24);
    error(".if 0\n.if 1\n.if 1\n.if 1\n.if q\n", 3, 24);
    good(times(".if 1\n", 4) + times(".end\n", 4));
    good(times(".if 1\n", 3) + ".if 0\n.end\n.if 0\n.end\n" + times(".end\n", 3));
    FerriteBoard board = Check.assembled("a: .if 0\nb: NOP\nc: .if 1\nd: .else\ne: .end\nf: .else\ng: NOP\nh: .end\ni: NOP");
    Check.is("names of the lines themselves", board.names(), 5);
    Check.is("the last of them", board.valueOf(4) + " " + board.valueOf(3) + " " + board.valueOf(2), "3073 3073 3072");
    error("a: .if 1\na: .else\n.end", 3, 9);
    error("a: .if 1\n.else\na: .end", 3, 15);
    error("c = 1\n.if 1\n.else\nc: .else\n.end", 3, 18);
    error(".if 0\n.text \"x\"\n.end\nLDA 1/0", 5, 25);
  }

  private static void secondTime() {
    error("LDA #b", 4, 5);
    error("LDA #256", 5, 5);
    error("LDA #-129", 5, 5);
    bytes("LDA #-128", 3072, 33, 128);
    bytes("LDA #255", 3072, 33, 255);
    error("LDA (256)", 5, 5);
    error("LDA (-1),X", 5, 5);
    bytes("LDA (255),X", 3072, 38, 255);
    error("LDA 4096", 5, 4);
    error("LDA -1", 5, 4);
    error("LDA 4096,X", 5, 4);
    error("LDA -1,X", 5, 4);
    bytes("LDA 4095,X", 3072, 36, 255, 15);
    bytes("LDA 255", 3072, 34, 255);
    bytes("LDA 256", 3072, 35, 0, 1);
    bytes("LDA b\nb = 5", 3072, 35, 5);
    bytes("b = 5\nLDA b,X", 3072, 36, 5);
    bytes("JMP 5", 3072, 195, 5);
    error("LDA b\nb = -1", 5, 4);
    error("LDA b\nb = 4096", 5, 4);
    error("LDA 1/b\nb = 0", 5, 4);
    error("LDA c/b\nb = 0", 4, 4);
    error(".byte 1,256", 5, 8);
    error(".byte -129", 5, 6);
    error(".byte b,c\nb=256\nc=1", 5, 6);
    error(".byte c,b\nb=256", 4, 6);
    error(".byte 256,c", 5, 6);
    error(".word 65536,0", 1, 6);
    error(".word 65535+1,0", 5, 6);
    error(".word -32769", 5, 6);
    bytes(".word -32768,65535,-1,258", 3072, 0, 128, 255, 255, 255, 255, 2, 1);
    error(".fill 0,256", 5, 8);
    error(".fill 0,-129", 5, 8);
    bytes(".fill 1,-128", 3072, 128);
    bytes(".fill 1,255", 3072, 255);
    bytes(".org 100\nBRA 0", 100, 216, 154);
    bytes("NOP\n.text \"ab\"\na: .byte a-3072", 3072, 0, 'a', 'b', 3);
    bytes(".text \"ab\"\n.word 1\n.byte 5,6\nLDA 300\na: .byte a-3072", 3072, 'a', 'b', 1, 0, 5, 6, 35, 44, 1, 9);
    error(".fill 2,b", 4, 8);
    bytes(".fill 3,-2", 3072, 254, 254, 254);
    error("BEQ 4096", 5, 4);
    error("BEQ -1", 5, 4);
    error("BEQ 3072+2+128", 5, 4);
    error("BEQ 3072+2-129", 5, 4);
    bytes("BEQ 3072+2+127", 3072, 208, 127);
    bytes("BVC 3072+2-128", 3072, 215, 128);
    bytes("BSR a\nBRA 3072\na: NOP", 3072, 217, 2, 216, 252);
    error("BNE b", 4, 4);
    error(".org 4095\nBEQ 0", 5, 14);
    error("LDA c\n.byte 1/0", 5, 12);
  }

  private static void puts() {
    error(".org 1791\n.byte 1,2", 6, 10);
    error(".org 1792\na: NOP", 6, 13);
    error(".org 4095\nLDA #1", 6, 10);
    error(".org 4095\nNOP\nNOP", 6, 14);
    error(".org 4095\nNOP\na: .fill 0,1", 0, -1);
    error(".org 3071\nLDA #1\n.org 3072\nNOP", 6, 27);
    error("NOP\n.org 3072\n.text \"a\"", 6, 14);
    error("NOP\n.org 3072\n.text \"\"", 0, -1);
    error(".org 2048\nNOP\n.bank 1\n.org 2048\nNOP\n.bank 0\n.org 2048\nNOP", 6, 54);
    error(".org 2047\n.byte 1", 6, 10);
    error("NOP\n.org 3070\n.word 1,256*256", 5, 22);
    FerriteBoard board = Check.assembled(".bank 2\n.org 2050\n.byte 9\n.bank 5\n.org 3070\n.word 513,1027\n.org 1790\n.byte 1,2");
    Check.is("into the banks", board.byteIn(2, 2) + " " + board.byteIn(5, 1022) + " " + board.byteIn(5, 1023) + " " + board.byteIn(0, 2), "9 1 2 0");
    Check.is("behind the WINDOW", board.byteAt(3072) + " " + board.byteAt(3073) + " " + board.byteAt(1791), "3 4 2");
    Check.is("lineOf shows BANK", board.lineOf(2050) + " " + board.lineOf(3070) + " " + board.lineOf(3072), "-1 -1 6");
  }

  private static void whatStays() {
    FerriteBoard board = Check.assembled("a = 7\nb: NOP\n.org 10\n.byte 1\n");
    board.setBreak(5, 0);
    board.setWatch(1, 2, true, true);
    board.setRegister(4, 3072);
    board.run(1);
    board.step();
    String ahead = board.names() + " " + board.valueOf(1) + " " + board.lineOf(3072) + " " + board.byteAt(10) + " " + board.pc() + " " + board.stopped();
    Check.type(board, "q: NOP\nLDA #");
    Check.is("an error", board.assemble() + " " + board.errorAt(), "1 12");
    Check.is("history is empty", board.history(), 0);
    String behind = board.names() + " " + board.valueOf(1) + " " + board.lineOf(3072) + " " + board.byteAt(10) + " " + board.pc() + " " + board.stopped();
    Check.is("all stays", behind, ahead);
    Check.is("the break stays", board.clearBreak(5), 0);
    Check.is("the watch stays", board.clearWatches(), 1);
    Check.refused("the tape is empty", "IllegalArgumentException", () -> board.trim(1));
    board.setBreak(5, 0);
    board.setWatch(1, 2, true, true);
    board.poke(3, 3);
    board.setRegister(0, 9);
    board.run(1);
    board.nmi();
    Check.type(board, ".org 4080\n.word 4096+700\nc: .byte 1");
    Check.is("no error", board.assemble() + " " + board.errorAt(), "0 -1");
    Check.is("memory is 0", board.byteAt(3) + " " + board.byteAt(10) + " " + board.byteAt(3072), "0 0 0");
    Check.is("reset", board.pc() + " " + board.a() + " " + board.stopped() + " " + board.cycles() + " " + board.nmi(), "700 0 0 0 false");
    Check.is("no break, no watch", board.clearBreak(5) + " " + board.clearWatches(), "-1 0");
    Check.is("names", board.names() + " " + board.valueOf(0), "1 4082");
    Check.is("lines", board.lineOf(4080) + " " + board.lineOf(4082) + " " + board.lineOf(3072), "2 3 -1");
    Check.refusedBy(board, "valueOf", "IndexOutOfBoundsException", () -> board.valueOf(1));
    Check.refusedBy(board, "valueOf", "IndexOutOfBoundsException", () -> board.valueOf(-1));
    board.poke(4080, 9);
    Check.is("poke leaves the line", board.lineOf(4080), 2);
    Check.type(board, ".bank 3\n.if 1\nNOP");
    Check.is("an open .if", board.assemble() + " " + board.errorAt(), "3 17");
    Check.type(board, ".org 2048\n.byte 7\n");
    Check.is("begins anew", board.assemble() + " " + board.byteIn(0, 0) + " " + board.byteIn(3, 0), "0 7 0");
    Check.type(board, ".org 4080\n.byte 7\n");
    Check.is("again", board.assemble() + " " + board.byteIn(0, 0) + " " + board.lineOf(4080), "0 0 2");
    Check.is("empty text", board.assemble() + " " + board.names() + " " + board.lineOf(4080) + " " + board.byteAt(4080), "0 0 -1 0");
  }

  private static void near() {
    FerriteBoard board = Check.assembled("a = 100\nb = -5\nc = 50\nd = 100\ne = 5000\nf = 0");
    Check.is("nameNear", board.nameNear(4095) + " " + board.nameNear(100) + " " + board.nameNear(99) + " " + board.nameNear(50), "0 0 2 2");
    Check.is("nameNear below", board.nameNear(49) + " " + board.nameNear(0), "5 5");
    Check.refusedBy(board, "nameNear", "IllegalArgumentException", () -> board.nameNear(-1));
    Check.refusedBy(board, "nameNear", "IllegalArgumentException", () -> board.nameNear(4096));
    Check.refusedBy(board, "lineOf", "IllegalArgumentException", () -> board.lineOf(-1));
    Check.refusedBy(board, "lineOf", "IllegalArgumentException", () -> board.lineOf(4096));
    Check.is("no names", new FerriteBoard().nameNear(4095), -1);
    Check.is("none so small", Check.assembled("a = 6\nb = -1").nameNear(5), -1);
    Check.is("lineOf PORTS", Check.assembled(".org 1791\nNOP").lineOf(1792), -1);
    Check.is("errorAt of a new one", new FerriteBoard().errorAt(), -1);
    StringBuilder many = new StringBuilder();
    for (int i = 0; i < 120; i++) many.append("n" + i + "=" + i + "\n");
    FerriteBoard full = Check.assembled(many.toString());
    Check.is("120 names", full.names() + " " + full.valueOf(119) + " " + full.nameNear(77), "120 119 77");
  }

  public static void main(String[] args) {
    tape();
    trimmed();
    tokens();
    forms();
    nesting();
    manyLines();
    values();
    firstTime();
    leftOut();
    secondTime();
    puts();
    whatStays();
    near();
    Check.finish();
  }
}
