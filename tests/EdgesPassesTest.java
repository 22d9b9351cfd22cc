/** Section 6 of the document, sentence by sentence: FIRST TIME, SECOND TIME, and what comes of a text. */
public final class EdgesPassesTest {
  /** The error, at the first byte of what stands behind the head. */
  private static void fails(int error, String head, String behind) {
    FerriteBoard board = new FerriteBoard();
    Check.type(board, head + behind);
    String due = error + " at " + head.length();
    Check.is("assemble of <" + head + behind + ">", board.assemble() + " at " + board.errorAt(), due);
  }

  private static FerriteBoard good(String text) {
    FerriteBoard board = new FerriteBoard();
    Check.type(board, text);
    Check.is("assemble of <" + text + ">", board.assemble() + " at " + board.errorAt(), "0 at -1");
    return board;
  }

  /** The bytes from an address on, and a 0 behind them. */
  private static void bytes(String text, int address, int... due) {
    FerriteBoard board = good(text);
    for (int i = 0; i < due.length; i++) Check.is("byte " + i + " of <" + text + ">", board.byteAt(address + i), due[i]);
    int behind = address + due.length;
    if (behind < 4096) Check.is("behind <" + text + ">", board.byteAt(behind), 0);
  }

  private static String times(String what, int count) {
    return what.repeat(count);
  }

  // FIRST TIME

  /** "ADDRESS is 3072 at first, the bank of the text 0; ADDRESS can become 4096 or more, and is not brought back by 4096" */
  private static void addressAndBank() {
    Check.is("ADDRESS at first", good("a:").valueOf(0), 3072);
    Check.is("the bank at first", good(".org 2048\n.byte 7").byteIn(0, 0), 7);
    Check.is("4096", good(".org 4095\nNOP\na:").valueOf(0), 4096);
    Check.is("not brought back", good(".org 4095\nNOP\na=@").valueOf(0), 4096);
    fails(6, ".org 4095\n.byte 1\na: ", ".byte 1");
    fails(6, ".org 4000\n", ".fill 97,0");
    good(".org 4000\n.fill 96,0\n.if @-4096\n.byte 1\n.end");
    fails(5, ".org 4000\n.fill 96,0\n.org ", "@");
    Check.is("much more", good(".if 0\n.end\n.org 4095\n.if 0\n.fill 1024,1\n.end\na:").valueOf(0), 4095);
    FerriteBoard board = new FerriteBoard();
    Check.type(board, ".bank 5\n.org 2048\n.byte 5");
    board.assemble();
    Check.type(board, "a: .org 2048\n.byte 6");
    Check.is("again at first", Bench.all(board.assemble(), board.valueOf(0), board.byteIn(0, 0), board.byteIn(5, 0)), "0 3072 6 0");
  }

  private static String next(FerriteBoard board, String text) {
    Check.type(board, text);
    return board.assemble() + " at " + board.errorAt();
  }

  /** Names, .if and lines of one text are nothing to the next one, whether it had an error or not. */
  private static void eachTextBeginsAnew() {
    for (String first : new String[] {"b=1\nc=2\nd=3", "b=1\nc=2\nXYZ", "b=1\nc=2\nd=e", "b=1\nc=2\nLDA #256", "b=1\nc=2\n.if 1", "b=1\nc=2\n.org 1792\nNOP", "b=1\nc=2\n!"}) {
      for (String then : new String[] {"a=b", "a=c", "a=1\nz=c"}) {
        FerriteBoard board = new FerriteBoard();
        next(board, first);
        Check.is(then + " behind " + first, next(board, then), "4 at " + (then.length() - 1));
      }
      FerriteBoard board = new FerriteBoard();
      next(board, first);
      Check.is("in SECOND TIME behind " + first, next(board, "LDA c"), "4 at 4");
      Check.is("defined once behind " + first, next(board, "b=5\nc=6\nd=7"), "0 at -1");
      Check.is("their values", Bench.all(board.names(), board.valueOf(0), board.valueOf(1)), "3 5 6");
      Check.is("no .if behind " + first, next(board, ".end"), "3 at 0");
      next(board, ".if 0");
      Check.is("no .if that is open", next(board, ".byte 7\n.if 1\n.end"), "0 at -1");
      Check.is("nothing is left out", board.byteAt(3072), 7);
      next(board, ".if 1\n.if 1\n.if 1\n.if 1\n");
      Check.is("none of four", next(board, ".if 1\n.end"), "0 at -1");
    }
  }

  /** "A name in front of : or = is defined: error 3, at it, ahead of errors of the value, if it has been" */
  private static void definedTwice() {
    fails(3, "a:\n", "a:");
    fails(3, "a:\n", "a=1");
    fails(3, "a=1\n", "a:");
    fails(3, "a=1\n", "a=1");
    fails(3, "a=1\n", "a=b");
    fails(3, "a=1\n", "a=1/0");
    fails(3, "a=1\n", "a: XYZ");
    fails(3, "a=1\n", "a: .org 9999");
    fails(3, "a=1\n", "a: .if b");
    fails(3, "a=1\n", "a: .end");
    fails(3, "a=1\n", "a: .else");
    fails(3, "a=1\n;\nb=2\n", "a:");
    good("a=1\naa=2\nab=3\nb=4");
    good("a=1\n.if 0\na=2\n.end");
    good(".if 0\na=2\n.end\na=1");
    Check.is("its value is ADDRESS", good("a: .org 5\nb: .fill 3,1\nc:").valueOf(0), 3072);
    Check.is("ADDRESS ahead of the work", Bench.all(good("a: .org 5\nb: .fill 3,1\nc:").valueOf(1), good(".org 5\nb: .fill 3,1\nc:").valueOf(1)), "5 8");
    Check.is("any value", Bench.all(good("a=-1").valueOf(0), good("a=1<<31").valueOf(0)), "-1 " + Integer.MIN_VALUE);
  }

  /** "A value is KNOWN if all names in it have been defined ahead of it (that of the same line, in front of its :, as well)" */
  private static void known() {
    fails(4, "a=", "a");
    fails(4, "a=", "b\nb=1");
    fails(4, "a=1+", "b");
    fails(4, "a=1\nc=a+", "b+d");
    fails(4, "a=-(1+", "b)");
    fails(4, "a=1/0+", "b");
    fails(4, "a=0*", "b");
    for (String word : new String[] {".org", ".bank", ".if"}) {
      fails(4, word + " ", "b\nb=0");
      fails(4, "a=0\n" + word + " a+", "b\n.end\nb=0");
      fails(4, word + " 9999+1/0+", "b");
    }
    fails(4, ".fill ", "b,1\nb=1");
    fails(4, ".fill ", "b,c\nb=1");
    good("a: .org a");
    good("a: .bank a-3072");
    good("a: .if a\n.end");
    good("a: .fill a-3072,1");
    good("a: .fill 1,b\nb=1");
    fails(4, "a: .fill ", "b,1\nb=1");
    bytes("a: LDA a-3000", 3072, 34, 72);
  }

  /** "error 5 is always at the first token of a value; here: there is a / or % by 0 in it", and its order */
  private static void byZero() {
    for (String by : new String[] {"1/0", "1%0", "(1/0)", "-1/0", "5+1%0*2", "0/0", "1/(5-5)", "1/(3072-@)", "1&2%0"}) {
      fails(5, "a=", by);
      fails(5, ".org ", by);
      fails(5, ".bank ", by);
      fails(5, ".if ", by + "\n.end");
      fails(5, ".fill ", by + ",1");
      fails(5, ".fill 0,", by);
      fails(5, ".byte ", by);
      fails(5, ".byte 1,", by + ",2");
      fails(5, ".word ", by);
      fails(5, "LDA #", by);
      fails(5, "BEQ ", by.replace("(1/0)", "1/0"));
      fails(5, "LDA (", by + ")");
    }
    fails(5, "LDA (", "1/0)");
    fails(5, "LDA (", "1/0),X");
    fails(5, "LDA ", "1/0,X");
    fails(5, "JMP ", "1/0");
    fails(5, "LDA #", "(1/0)");
    // as soon as it is KNOWN: ahead of what comes behind it, and of all of SECOND TIME
    fails(5, ".byte 256\nLDA #", "1/0");
    fails(5, ".byte c,", "2/0\nc=1");
    fails(5, ".byte 1000,c,", "2/0,3/0\nXYZ");
    fails(5, "LDA #", "1/0\na=b");
    fails(2, "LDA #c/0\n", "XYZ\nc=1");
    fails(5, "LDA #", "c/0\nc=1");
    fails(4, "LDA #", "c/0");
    fails(4, ".byte 1,", "c/0,2\n");
    // each with its other errors
    fails(5, ".fill ", "1025,1/0");
    fails(5, ".fill 1024,", "1/0");
    fails(4, ".fill ", "b,1/0");
    fails(5, ".fill ", "1/0,2/0");
    fails(2, "", "XYZ 1/0");
  }

  /** ".org: ... both must be KNOWN; error 5: it is not 0 to 4095, not 0 to 7." */
  private static void orgAndBank() {
    for (int value : new int[] {0, 1, 1791, 1792, 2047, 4095}) Check.is(".org " + value, good(".org " + value + "\na:").valueOf(0), value);
    for (String value : new String[] {"-1", "4096", "65535", "1<<31", "-4096"}) fails(5, ".org ", value);
    for (int value = 0; value < 8; value++) {
      FerriteBoard board = good(".bank " + value + "\n.org 3071\n.byte 9");
      for (int bank = 0; bank < 8; bank++) Check.is(".bank " + value, board.byteIn(bank, 1023), bank == value ? 9 : 0);
    }
    for (String value : new String[] {"-1", "8", "255", "1<<31", "-8"}) fails(5, ".bank ", value);
    // FIRST TIME comes whole ahead of SECOND TIME
    fails(5, "LDA #256\n.org ", "4096");
    fails(5, "LDA #b\n.bank ", "8");
  }

  /** "if it is 0, the lines up to its .else, or its .end, are left out; otherwise those from its .else to its .end" */
  private static void ifs() {
    for (String value : new String[] {"1", "-1", "256", "1<<31", "65535"}) {
      bytes(".if " + value + "\n.byte 1\n.else\n.byte 2\n.end\n.byte 3", 3072, 1, 3);
      bytes(".if " + value + "\n.byte 1\n.end\n.byte 3", 3072, 1, 3);
    }
    for (String value : new String[] {"0", "5-5", "-0", "1/2"}) {
      bytes(".if " + value + "\n.byte 1\n.else\n.byte 2\n.end\n.byte 3", 3072, 2, 3);
      bytes(".if " + value + "\n.byte 1\n.end\n.byte 3", 3072, 3);
    }
    for (int outer = 0; outer < 2; outer++) {
      for (int first = 0; first < 2; first++) {
        for (int second = 0; second < 2; second++) {
          String text = ".if " + outer + "\n.byte 1\n.if " + first + "\n.byte 2\n.else\n.byte 3\n.end\n.byte 4\n.else\n.byte 5\n.if " + second
              + "\n.byte 6\n.else\n.byte 7\n.end\n.byte 8\n.end\n.byte 9";
          if (outer == 1) bytes(text, 3072, 1, first == 1 ? 2 : 3, 4, 9);
          else bytes(text, 3072, 5, second == 1 ? 6 : 7, 8, 9);
        }
      }
    }
  }

  /** "A line that is left out by a .if does nothing, but for its own .if, .else and .end." */
  private static void leftOutDoesNothing() {
    String[] works = {"a=b", "a=1/0", "c=2", "c:", "a: XYZ", "LDA", "NOP 5", ".org 9999", ".org b", ".org 5", ".bank 9", ".bank 3", ".fill 2000,1", ".fill b,1",
        ".byte 256", ".byte b", ".word 1/0", ".text \"abc\"", "BEQ 0", "LDA #999", ".fill 5,1", "NOP"};
    for (String work : works) {
      FerriteBoard board = good("c=1\n.if 0\n" + work + "\n.end\nd: .byte 7\n.if 1\n.else\n" + work + "\n.end\n.byte 8");
      Check.is("left out: " + work, Bench.all(board.names(), board.valueOf(1), board.byteAt(3072), board.byteAt(3073), board.lineOf(3073)), "2 3072 7 8 10");
    }
    fails(1, ".if 0\n", "5\n.end");
    fails(1, ".if 0\n.byte 1,", "\n.end");
    fails(1, ".if 0\n", "!\n.end");
  }

  /** "The lines of the .if, of a .else, also a second one, and of the .end themselves are not among them" */
  private static void namesOfTheLinesThemselves() {
    for (int value = 0; value < 2; value++) {
      FerriteBoard board = good("a: .if " + value + "\n.byte 1\nb: .else\n.byte 2\nc: .end\nd:");
      Check.is("names of the lines themselves", Bench.all(board.names(), board.valueOf(0), board.valueOf(1), board.valueOf(2), board.valueOf(3)),
          Bench.all(4, 3072, 3072 + value, 3073, 3073));
      // "ahead of all else": the name is defined ahead of the second .else being wrong
      fails(3, "x=1\n.if " + value + "\n.else\n", "x: .else\n.end");
      fails(3, ".if " + value + "\n.else\nx: ", ".else\n.end");
      fails(3, "x=1\n.if " + value + "\n", "x: .else\n.end");
      fails(3, "x=1\n.if " + value + "\n", "x: .end");
      fails(3, "x=1\n.if " + value + "\n.else\n", "x: .end");
    }
    fails(3, "x=1\n" + times(".if 1\n", 4), "x: .if 1");
    fails(3, "x=1\n", "x: .if q");
    fails(3, "", ".else");
    fails(3, "x: ", ".else");
    fails(3, "x=1\n", "x: .else");
  }

  /** "A .if in lines that are left out leaves out all up to its .end, these lines as well, and its value is not looked at." */
  private static void ifsLeftOut() {
    for (String value : new String[] {"1", "0", "q", "1/0"}) {
      for (String around : new String[] {".if 0\n", ".if 1\n.else\n"}) {
        FerriteBoard board = good("x=1\n" + around + "x: .if " + value + "\n.byte 1\nx:\nx: .else\n.byte 2\nx: .end\n.byte 3\ny: .end\n.byte 4");
        Check.is("left out with " + value, Bench.all(board.names(), board.valueOf(1), board.byteAt(3072), board.byteAt(3073)), "2 3072 4 0");
      }
      FerriteBoard behind = good(".if 0\n.if " + value + "\n.byte 1\n.else\n.byte 2\n.end\n.byte 3\nz: .else\n.byte 4\n.end");
      Check.is("the outer .else still counts", Bench.all(behind.names(), behind.byteAt(3072), behind.byteAt(3073)), "1 4 0");
    }
    good(".if 0\n.if q\n.if r\n.else\n.end\n.else\n.end\n.end");
  }

  /** "Error 3, at it, ahead of errors of its value (also in lines that are left out): a .if within 4 others; ..." */
  private static void errorThree() {
    good(times(".if 1\n", 4) + times(".end\n", 4));
    good(times(".if 0\n", 4) + times(".end\n", 4));
    fails(3, times(".if 1\n", 4), ".if 1\n" + times(".end\n", 5));
    fails(3, times(".if 0\n", 4), ".if 1\n" + times(".end\n", 5));
    fails(3, times(".if 1\n", 4), ".if q");
    fails(3, times(".if 1\n", 4), ".if 1/0");
    fails(3, times(".if 0\n", 4), ".if q");
    fails(3, times(".if 1\n.else\n", 4), ".if 1");
    fails(3, times(".if 1\n", 4) + "n: ", ".if 1");
    good(times(".if 1\n", 3) + times(".if 1\n.end\n", 5) + times(".end\n", 3));
    good(times(times(".if 1\n", 4) + times(".end\n", 4), 3));
    fails(3, "", ".end");
    fails(3, "", ".else");
    fails(3, ".if 1\n.end\n", ".end");
    fails(3, ".if 1\n.end\n", ".else");
    fails(3, ".if 0\n.end\n", ".end");
    for (int value = 0; value < 2; value++) {
      fails(3, ".if " + value + "\n.else\n", ".else\n.end");
      fails(3, ".if " + value + "\n.if 1\n.else\n", ".else\n.end\n.end");
      fails(3, ".if " + value + "\n.else\n.if 1\n.else\n", ".else\n.end\n.end");
      good(".if " + value + "\n.if 1\n.else\n.end\n.else\n.if 0\n.else\n.end\n.end");
      // "and, at the length of the tape, a .if without its .end"
      fails(3, ".if " + value, "");
      fails(3, ".if " + value + "\n", "");
      fails(3, ".if " + value + "\n.else\n ;", "");
      fails(3, ".if " + value + "\n.if 1\n.end\n", "");
    }
    fails(5, ".if 1\na=", "1/0");
    fails(3, "LDA #256\n.if 1\nNOP", "");
  }

  /** "code: error 2, at it, ahead of errors of its value, if it is no name of an instruction, or this cannot have such a place." */
  private static void forms() {
    String[] plain = {"NOP", "HLT", "WAI", "RTS", "RTI", "BRK", "CLC", "SEC", "CLI", "SEI", "TAX", "TXA", "TSX", "TXS", "SWP", "MUL", "PHA", "PLA", "PHX", "PLX",
        "PHP", "PLP", "INX", "DEX", "SHL", "SHR", "ROL", "ROR", "SWN", "NEG", "NOT", "DIV"};
    for (int code = 0; code < 32; code++) {
      bytes(plain[code] + "\n.byte 9", 3072, code, 9);
      boolean shifts = code >= 24 && code <= 27;
      for (String place : new String[] {"#5", "5", "5,X", "(5)", "(5),X", "300"}) {
        if (!shifts) fails(2, "", plain[code] + " " + place);
      }
    }
    String[] moded = {"LDA", "LDX", "ADD", "ADC", "SUB", "SBC", "CMP", "CPX", "AND", "OR", "XOR", "BIT", "STA", "STX", "INC", "DEC", "SHL", "SHR", "ROL", "ROR",
        "JMP", "JSR"};
    for (int i = 0; i < moded.length; i++) modes(moded[i], i + 4);
    String[] branches = {"BEQ", "BNE", "BCS", "BCC", "BMI", "BPL", "BVS", "BVC", "BRA", "BSR"};
    for (int i = 0; i < branches.length; i++) {
      bytes(branches[i] + " 3080\n.byte 9", 3072, 208 + i, 6, 9);
      fails(2, "", branches[i]);
      for (String place : new String[] {"#5", "3080,X", "(3080)", "(5),X", "#1/0", "(q)"}) fails(2, "", branches[i] + " " + place);
    }
    for (String none : new String[] {"A", "X", "BR", "LDAX", "LDY", "NOPE", "ORA", "ABCDEFGH", "O", "R"}) {
      fails(2, "", none);
      fails(2, "n: ", none + " 5");
      fails(2, "", none + " 1/0");
      fails(2, "", none + " q,X");
    }
  }

  private static void modes(String name, int g) {
    boolean one = g <= 15;
    boolean jump = g >= 24;
    boolean shifts = g >= 20 && g <= 23;
    if (!shifts) fails(2, "", name);
    if (one) bytes(name + " #5", 3072, 8 * g + 1, 5);
    else fails(2, "", name + " #5");
    if (!one) fails(2, "", name + " #1/0");
    // "a value alone is mode 2, if the instruction has this mode, and the value is KNOWN, and 0 to 255, otherwise mode 3"
    for (int value : new int[] {0, 255}) {
      if (jump) bytes(name + " " + value + "\n.byte 9", 3072, 8 * g + 3, value, 0, 9);
      else bytes(name + " " + value + "\n.byte 9", 3072, 8 * g + 2, value, 9);
    }
    bytes(name + " 256\n.byte 9", 3072, 8 * g + 3, 0, 1, 9);
    bytes(name + " 4095\n.byte 9", 3072, 8 * g + 3, 255, 15, 9);
    bytes(name + " q\n.byte 9\nq=5", 3072, 8 * g + 3, 5, 0, 9);
    bytes(name + " 0,X\n.byte 9", 3072, 8 * g + 4, 0, 0, 9);
    bytes(name + " 4095,X\n.byte 9", 3072, 8 * g + 4, 255, 15, 9);
    bytes(name + " (255)\n.byte 9", 3072, 8 * g + 5, 255, 9);
    if (jump) fails(2, "", name + " (255),X");
    else bytes(name + " (255),X\n.byte 9", 3072, 8 * g + 6, 255, 9);
    fails(5, name + " ", "-1");
    fails(5, name + " ", "4096");
  }

  /** "ADDRESS goes on by the bytes of the work" */
  private static void addressGoesOn() {
    String[] works = {"NOP", "LDA #1", "LDA 255", "LDA 256", "LDA q", "LDA 1,X", "LDA (1)", "LDA (1),X", "JMP 1", "BEQ 3080", ".byte 1", ".byte 1,2,3", ".byte q,q",
        ".word 1", ".word 1,2,3", ".word q,q", ".text \"\"", ".text \"a\"", ".text \"abcde\"", ".fill 0,1", ".fill 1,1", ".fill 500,1", ".fill 1019,q", ".org 3079", ".bank 3",
        ".if 1\n.end", "", "SHL", "SHL 5"};
    int[] due = {1, 2, 2, 3, 3, 3, 2, 2, 3, 2, 1, 3, 2, 2, 6, 4, 0, 1, 5, 0, 1, 500, 1019, 7, 0, 0, 0, 1, 2};
    for (int i = 0; i < works.length; i++) {
      FerriteBoard board = good("q=1\n" + works[i].replace("q", "r") + "\na:\nr=9");
      Check.is("ADDRESS behind " + works[i], board.valueOf(1), 3072 + due[i]);
    }
  }

  /** "the first value of .fill, which must be KNOWN (error 5: it is not 0 to 1024): its second value is put as often" */
  private static void fill() {
    for (int count : new int[] {0, 1, 2, 1023, 1024}) {
      FerriteBoard board = good(".org 100\n.byte 5\n.fill " + count + ",7\na: .byte 6");
      String got = Bench.all(board.valueOf(0), board.byteAt(100), board.byteAt(100 + count), board.byteAt(101 + count), board.byteAt(102 + count));
      Check.is(".fill " + count, got, Bench.all(101 + count, 5, count == 0 ? 5 : 7, 6, 0));
    }
    for (String count : new String[] {"1025", "-1", "65535", "1<<31"}) {
      fails(5, ".fill ", count + ",7");
      fails(5, ".fill ", count + ",q");
    }
  }

  // SECOND TIME

  /** "not -128 to 255 with #, .byte and the second value of .fill" and the ends of the others */
  private static void endsOfValues() {
    String[] heads = {"LDA #", ".byte ", ".byte 1,", ".fill 1,", "CPX #"};
    int[] at = {1, 0, 1, 0, 1};
    for (int i = 0; i < heads.length; i++) {
      for (int value : new int[] {-128, -1, 0, 1, 127, 128, 255}) {
        Check.is(heads[i] + value, good(heads[i] + value).byteAt(3072 + at[i]), value < 0 ? value + 256 : value);
      }
      for (String value : new String[] {"-129", "256", "-65535", "65535", "1<<31", "-1<<31"}) fails(5, heads[i], value);
      fails(5, heads[i], "q\nq=256");
      fails(5, heads[i], "q\nq=-129");
    }
    fails(5, ".fill 0,", "256");
    fails(5, ".fill 0,", "-129");
    for (String tail : new String[] {")", "),X"}) {
      for (int value : new int[] {0, 1, 255}) Check.is("( )", good("LDA (" + value + tail).byteAt(3073), value);
      for (String value : new String[] {"-1", "256", "-128", "q"}) fails(5, "LDA (", value + tail + "\nq=256");
    }
    for (int value : new int[] {-32768, -1, 0, 1, 255, 256, 32767, 32768, 65535}) {
      FerriteBoard board = good(".word " + value + ",258");
      int due = value < 0 ? value + 65536 : value;
      Check.is(".word " + value, Bench.all(board.byteAt(3072), board.byteAt(3073), board.byteAt(3074), board.byteAt(3075)), Bench.all(due % 256, due / 256, 2, 1));
    }
    for (String value : new String[] {"-32769", "65535+1", "-65535", "1<<31", "q"}) {
      fails(5, ".word ", value + "\nq=65535+1");
      fails(5, ".word 1,", value + "\nq=-32769");
    }
    for (String tail : new String[] {"", ",X"}) {
      for (int value : new int[] {256, 4095}) Check.is("LDA", good("LDA " + value + tail).byteAt(3074), value / 256);
      for (String value : new String[] {"-1", "4096", "65535", "1<<31", "q"}) fails(5, "LDA ", value + tail + "\nq=4096");
      fails(5, "LDA ", "q" + tail + "\nq=-1");
    }
  }

  /** "for a branch not 0 to 4095, or not -128 to 127 behind where the next instruction begins" */
  private static void branches() {
    for (int way : new int[] {-128, -127, -1, 0, 1, 126, 127}) {
      Check.is("a branch by " + way, good("BEQ " + (3074 + way)).byteAt(3073), way & 255);
      Check.is("a branch by q of " + way, good("BSR q\nq=" + (3074 + way)).byteAt(3073), way & 255);
    }
    for (int way : new int[] {-129, 128, -3074, 1021}) fails(5, "BEQ ", "" + (3074 + way));
    fails(5, "BEQ ", "-1");
    fails(5, ".org 0\nBEQ ", "-1");
    good(".org 0\nBEQ 0");
    good(".org 3967\nBEQ 4095");
    good(".org 4094\nBEQ 4095");
    fails(5, ".org 4094\nBEQ ", "4096");
    fails(5, ".org 4000\nBEQ ", "4096");
    fails(5, ".org 4094\nBEQ ", "0");
    fails(5, ".org 0\nBEQ ", "4095");
    fails(5, "BEQ ", "1<<31");
    fails(5, "BEQ ", "3074+128\n");
    // the branch's own error comes ahead of where its bytes would be put
    fails(5, ".org 4095\nBEQ ", "3000");
    fails(6, ".org 4095\n", "BEQ 4095");
    fails(6, ".org 1792\n", "BEQ 1792");
  }

  /** "error 4, at the first of its names that is not defined at all; ahead of that of the next value, error 5" */
  private static void orderOfErrors() {
    fails(4, "a=1\nLDA a+", "b+c");
    fails(4, ".byte 1,", "b,256");
    fails(5, ".byte ", "256,b");
    fails(5, ".byte 1,", "-129,b");
    fails(4, ".word a,", "b,65535*2\na=1");
    fails(5, ".word a,", "65535+1,b\na=1");
    fails(4, ".fill 1,", "b");
    fails(4, "LDA (", "b),X");
    fails(4, "BEQ ", "b");
    fails(4, "JMP ", "b,X");
    fails(4, "LDA #1/", "b");
    fails(4, "LDA #1/0+", "b");
    fails(5, "LDA #", "1/b\nb=0");
    fails(5, "LDA #", "1%b\nb=0");
    fails(5, ".byte 1,", "1/b,c\nb=0");
    // the lines from the first to the last
    fails(5, "LDA #", "256\nLDA #b\n.org 1792\nNOP");
    fails(4, "LDA #", "b\nLDA #256");
    fails(6, ".org 1792\n", "NOP\nLDA #256");
    // all values of a work ahead of its bytes
    fails(5, ".org 1792\n.fill 1,", "256");
    fails(4, ".org 1792\n.fill 1,", "b");
    fails(5, ".org 1792\nLDA #", "256");
    fails(5, ".org 1792\nBEQ ", "1");
    fails(4, ".org 1792\nLDA ", "b");
    fails(5, ".org 1792\n.word ", "65535+1");
    fails(5, ".org 1791\n.byte 1,2,", "256");
    fails(4, ".org 1791\n.byte 1,2,", "b");
    good(".if 0\nLDA #b\n.byte 256\n.org 1792\nNOP\n.end");
  }

  /** "Error 6, at the first token of the work: one of them would be put into PORTS, at 4096 or behind, or where this text has put one." */
  private static void errorSix() {
    good(".org 1791\nNOP");
    good(".org 1789\nLDA 300");
    for (int from = 1790; from <= 2047; from += from == 1792 ? 253 : 1) fails(6, ".org " + from + "\na: ", "LDA 300");
    fails(6, ".org 1791\n", "LDA #1");
    fails(6, ".org 1792\n", "NOP");
    fails(6, ".org 2047\n", "NOP");
    fails(6, ".org 2047\n", ".text \"ab\"");
    good(".org 2048\nNOP");
    good(".org 768\n.fill 1024,1");
    fails(6, ".org 769\n", ".fill 1024,1");
    good(".org 4095\nNOP");
    good(".org 4093\nLDA 300");
    fails(6, ".org 4094\n", "LDA 300");
    fails(6, ".org 4095\n", ".word 1");
    fails(6, ".org 4095\nNOP\n", "NOP");
    fails(6, ".org 4095\nNOP\n", ".fill 1,1");
    good(".org 4095\nNOP\n.fill 0,1\n.text \"\"");
    good(".org 1792\n.fill 0,1\n.text \"\"");
    fails(6, ".org 0\n.fill 1024,0\n.fill 768,0\n", ".byte 1");
    // where this text has put one
    fails(6, "NOP\n.org 3072\n", "NOP");
    fails(6, ".byte 0\n.org 3071\nn: ", ".byte 1,2");
    fails(6, ".byte 1,2,3\n.org 3074\n", ".byte 4");
    good(".byte 1,2,3\n.org 3075\n.byte 4\n.org 3071\n.byte 5");
    good("NOP\n.org 3072\n.fill 0,1\n.text \"\"");
    fails(6, "NOP\n.org 3072\n", ".text \"a\"");
    for (int bank = 0; bank < 8; bank++) {
      String head = ".org 2048\n.byte 1\n.bank " + bank + "\n.org 2048\n";
      if (bank == 0) fails(6, head, ".byte 2");
      else good(head + ".byte 2");
      fails(6, ".byte 1\n.bank " + bank + "\n.org 3072\n", ".byte 2");
      fails(6, ".org 0\n.byte 1\n.bank " + bank + "\n.org 0\n", ".byte 2");
    }
    Check.is("another text may", assembledTwice("NOP\nINX"), "0 0 22 2");
  }

  private static String assembledTwice(String text) {
    FerriteBoard board = new FerriteBoard();
    Check.type(board, text);
    int first = board.assemble();
    Check.type(board, text);
    return Bench.all(first, board.assemble(), board.byteAt(3073), board.lineOf(3073));
  }

  /** "in the WINDOW into the bank of the text" */
  private static void intoTheWindow() {
    FerriteBoard board = good(".bank 3\n.org 3070\n.byte 1,2,3,4\n.bank 7\n.org 2048\n.byte 5\n.org 1790\n.byte 6,7\n.bank 0\n.org 3070\n.byte 8");
    Check.is("bank 3", Bench.all(board.byteIn(3, 1022), board.byteIn(3, 1023), board.byteAt(3072), board.byteAt(3073)), "1 2 3 4");
    Check.is("the others", Bench.all(board.byteIn(7, 0), board.byteIn(0, 0), board.byteAt(1790), board.byteAt(1791), board.byteAt(3070)), "5 0 6 7 8");
    Check.is("lines with BANK 0", Bench.all(board.lineOf(3070), board.lineOf(3071), board.lineOf(3072), board.lineOf(2048), board.lineOf(1791)), "11 -1 3 -1 8");
    Bench.write(board, 1792, 3);
    Check.is("lines with BANK 3", Bench.all(board.lineOf(3070), board.lineOf(3071), board.lineOf(3072), board.lineOf(2048)), "3 3 3 -1");
    Bench.write(board, 1792, 7);
    Check.is("lines with BANK 7", Bench.all(board.lineOf(3070), board.lineOf(2048), board.lineOf(1790)), "-1 6 8");
  }

  /** "If there is no error, all bytes of the memory that the text does not put are 0, there are no breaks and watches, and the machine is reset()." */
  private static void withoutAnError() {
    FerriteBoard board = new FerriteBoard();
    int[] edges = {0, 1791, 2048, 3071, 3072, 4095};
    for (int bank = 0; bank < 8; bank++) {
      Bench.write(board, 1792, bank);
      for (int address : edges) board.poke(address, 99);
    }
    for (int i = 0; i < 6; i++) board.setBreak(i, i);
    for (int i = 0; i < 4; i++) board.setWatch(i, i, true, true);
    Bench.registers(board, 1, 2, 3, 27);
    board.nmi();
    board.key(5);
    board.run(1);
    board.step();
    Check.type(board, ".org 4080\n.word 600\n.org 5\n.byte 1\na=7");
    Check.is("no error", Bench.all(board.assemble(), board.errorAt()), "0 -1");
    for (int address : edges) Check.is("byte " + address, board.byteAt(address), 0);
    for (int bank = 0; bank < 8; bank++) Check.is("bank " + bank, Bench.all(board.byteIn(bank, 0), board.byteIn(bank, 1023)), "0 0");
    Check.is("what it puts", Bench.all(board.byteAt(5), board.byteAt(4080), board.byteAt(4081)), "1 88 2");
    Check.is("reset()", Bench.all(board.a(), board.x(), board.s(), board.flags(), board.pc(), board.state(), board.cycles(), board.instructions()), "0 0 255 4 600 0 0 0");
    Check.is("its ports", Bench.all(board.bank(), board.mask(), board.pending(), board.inputs(), board.outputs(), board.calls(), board.hottest()), "0 0 0 0 0 0 -1");
    Check.is("no NMI, no history", Bench.all(board.stopped(), board.history(), board.nmi()), "0 0 false");
    for (int i = 0; i < 6; i++) Check.is("no break", board.clearBreak(i), -1);
    Check.is("no watches", board.clearWatches(), 0);
    Check.is("names", Bench.all(board.names(), board.valueOf(0)), "1 7");
  }

  /** "If there is one, all stays (but the tape and HISTORY are empty)." For each of the six errors. */
  private static void withAnError() {
    String[] texts = {"!", "XYZ", "z:\nz:", "z=y", "z=1/0", ".org 5\n.byte 1\n.org 1792\nNOP", ".byte 256", ".byte y", ".if 1", "z: NOP\n.org 2048\n.fill 1024,9\nLDA #256"};
    int[] errors = {1, 2, 3, 4, 5, 6, 5, 4, 3, 5};
    for (int i = 0; i < texts.length; i++) {
      FerriteBoard board = Check.assembled("a=5\nb: INX\nSTX 9\nBRA b\n.org 4080\n.word b\n.bank 2\n.org 2050\n.byte 8");
      board.setBreak(4000, 4);
      board.setWatch(9, 9, false, true);
      board.nmi();
      board.run(9);
      int pc = board.pc();
      String ahead = state(board);
      Check.type(board, texts[i]);
      Check.is("the error", board.assemble(), errors[i]);
      Check.is("all stays behind " + texts[i], state(board), ahead);
      Check.is("HISTORY is empty", Bench.all(board.history(), board.back(1), board.pc()), Bench.all(0, 0, pc));
      Check.refused("the tape is empty", "IllegalArgumentException", () -> board.trim(1));
      Check.is("the break", board.clearBreak(4000), 4);
      Check.is("the watch", board.clearWatches(), 1);
    }
  }

  private static String state(FerriteBoard board) {
    StringBuilder lines = new StringBuilder();
    for (int address : new int[] {5, 9, 2050, 3071, 3072, 3073, 3074, 4080, 4082}) lines.append(board.lineOf(address)).append(' ').append(board.byteAt(address)).append(' ');
    return Bench.all(lines, board.a(), board.x(), board.pc(), board.s(), board.flags(), board.state(), board.cycles(), board.instructions(), board.names(), board.valueOf(0),
        board.valueOf(1), board.nameNear(4095), board.byteIn(2, 2), board.stopped(), board.calls(), board.hottest());
  }

  public static void main(String[] args) {
    addressAndBank();
    eachTextBeginsAnew();
    definedTwice();
    known();
    byZero();
    orgAndBank();
    ifs();
    leftOutDoesNothing();
    namesOfTheLinesThemselves();
    ifsLeftOut();
    errorThree();
    forms();
    addressGoesOn();
    fill();
    endsOfValues();
    branches();
    orderOfErrors();
    errorSix();
    intoTheWindow();
    withoutAnError();
    withAnError();
    Check.finish();
  }
}
