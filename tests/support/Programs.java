import java.util.ArrayList;
import java.util.List;
import java.util.Random;

/** Texts by chance (always the same ones for the same seed): programs that run, and bad ones. */
final class Programs {
  private final Random chance;
  private final StringBuilder text = new StringBuilder();
  private int labels;

  Programs(Random chance) {
    this.chance = chance;
  }

  private int below(int n) {
    return chance.nextInt(n);
  }

  private String one(String... of) {
    return of[below(of.length)];
  }

  private void line(String line) {
    if (text.length() + line.length() < 1970) text.append(line).append('\n');
  }

  /** A program with subroutines, handlers and vectors, that mostly is in order. */
  String program() {
    text.setLength(0);
    labels = 0;
    if (below(3) == 0) line("io=1792");
    if (below(4) == 0) line("zp = " + below(300));
    line("start: " + (below(3) == 0 ? "SEI" : "CLI"));
    if (below(3) == 0) machineSet();
    block(4 + below(14));
    line(one("HLT", "BRA start", "JMP start", "WAI", "NOP", "BRK"));
    if (below(2) == 0) oddities();
    for (int k = 0; k < 3; k++) {
      line("s" + k + ": " + instruction());
      block(below(4));
      line(below(9) == 0 ? "NOP" : "RTS");
    }
    for (int k = 0; k < 3; k++) {
      line("h" + k + ": " + one("INC 5", "PHA", "LDA 1796", "STA 1795", "NOP", "INC 1795"));
      if (below(2) == 0) line(" LDA #" + below(16));
      if (below(2) == 0) line(" STA 1794");
      line(below(12) == 0 ? "HLT" : "RTI");
    }
    if (below(3) == 0) banks();
    line(".org 4080");
    StringBuilder vectors = new StringBuilder(".word start");
    for (int k = 1; k < 8; k++) vectors.append(',').append(one("h0", "h1", "h2", "h0", "s0"));
    line(vectors.toString());
    return text.toString();
  }

  private void machineSet() {
    line(" LDA #" + below(16));
    line(" STA 1793 ; MASK");
    line(" LDA #" + (1 + below(60)));
    line(" STA 1798");
    line(" LDA #" + below(4));
    line(" STA 1800");
  }

  private void block(int count) {
    for (int k = 0; k < count; k++) {
      String label = below(5) == 0 ? "q" + labels++ + ": " : " ";
      line(label + instruction() + (below(12) == 0 ? " ; x" : ""));
    }
  }

  private void banks() {
    line(".org 2048" + (below(2) == 0 ? "+" + below(40) : ""));
    line(".bank " + below(8));
    line(".text \"bank;\"");
    line(".fill " + below(20) + ", '" + (char) (33 + below(90)));
    line(".org " + one("16", "0", "300", "1780"));
    line(".byte " + below(256) + ", -" + below(129) + "," + value(2));
  }

  private void oddities() {
    switch (below(8)) {
      case 0:
        line(".if " + below(2));
        line("a1: " + instruction());
        line(below(2) == 0 ? ".else" : "e1: .else");
        line("b1: " + instruction());
        line(".end");
        break;
      case 1:
        line(".if " + value(1));
        line(".if " + value(1));
        line("c1: NOP");
        line("c2: .else");
        line("c3: INX");
        line(".end");
        line("c4: .end");
        break;
      case 2: line("v" + below(3) + " = " + value(3)); break;
      case 3: line(" .word " + value(2) + " , " + value(2)); break;
      case 4: line(".fill " + value(1) + "," + value(1)); break;
      case 5: line(one("LDA", "STX", "JMP", "BEQ", "SHL", "ROR", "BIT") + " " + place()); break;
      case 6: line(".byte " + value(3)); break;
      default: line(".org @+" + below(9)); break;
    }
  }

  private String place() {
    switch (below(8)) {
      case 0: return "#" + value(2);
      case 1: return "(" + value(1) + ")";
      case 2: return "(" + value(1) + "),X";
      case 3: return value(2) + " , X";
      case 4: return "";
      default: return value(2);
    }
  }

  String value(int depth) {
    if (depth == 0 || below(3) == 0) {
      return one("" + below(10), "" + below(300), "$" + Integer.toHexString(below(5000)), "'" + (char) (32 + below(95)),
          "@", "start", "s0", "h1", "2", "1", "0", "q0", "3072");
    }
    switch (below(6)) {
      case 0: return "(" + value(depth - 1) + ")";
      case 1: return one("-", "~", "<", ">") + value(depth - 1);
      default: return value(depth - 1) + one("+", "-", "*", "/", "%", "&", "|", "^", "<<", ">>", " + ", "-") + value(depth - 1);
    }
  }

  String instruction() {
    switch (below(10)) {
      case 0: case 1:
        return one("NOP", "RTS", "CLC", "SEC", "CLI", "SEI", "TAX", "TXA", "TSX", "SWP", "MUL", "PHA", "PLA", "PHX",
            "PLX", "PHP", "PLP", "INX", "DEX", "SHL", "SHR", "ROL", "ROR", "SWN", "NEG", "NOT", "DIV", "WAI", "TXS");
      case 2: return one("LDA", "LDX", "ADD", "ADC", "SUB", "SBC", "CMP", "CPX", "AND", "OR", "XOR", "BIT") + " #" + below(256);
      case 3: return one("LDA", "LDX", "ADD", "ADC", "SUB", "SBC", "STA", "STX", "INC", "DEC", "SHL", "ROR") + " " + below(30);
      case 4: return one("STA", "STX", "INC", "LDA", "LDX", "STA", "STA") + " 1792+" + below(17);
      case 5: return one("BEQ", "BNE", "BCS", "BCC", "BMI", "BPL", "BVS", "BVC", "BRA", "BSR") + " @" + one("+2", "+3", "+4", "+5", "-4", "-2", "-7", "+9");
      case 6: return one("JSR s0", "JSR s1", "JSR s2", "BSR s0", "BSR s1", "JSR s1", "BRK", "JSR (8)", "JMP (10)");
      case 7: return one("LDA", "STA", "CMP", "ADC", "ROL", "SHR", "DEC", "XOR") + " " + one("(4)", "(6),X", "2048,X", "2050", "250,X", "(255)", "1795,X", "3072,X", "500", "4095,X", "2051");
      case 8:
        return one("LDA #" + below(8) + "\n STA 1792", "LDA #" + below(20) + "\n STA 1802\n STA 1806", "LDX #" + below(5), "LDA #8\n STA 1805",
            "LDA #" + below(256) + "\n STA 1801", "LDA 1801", "LDA 1796", "STA 1795");
      default: return one("LDA", "STA") + " " + below(256);
    }
  }

  /** A text with a byte or a few changed, taken out or put in. */
  String spoiled(String whole) {
    StringBuilder bad = new StringBuilder(whole);
    int changes = 1 + below(3);
    for (int k = 0; k < changes && bad.length() > 1; k++) {
      int at = below(bad.length());
      char put = one(" ", "\n", ";", "(", ")", ",", ":", "=", "#", "X", "a", "q0", "9", "$", "'", "\"", ".", "<", ">", "-", "~", "@",
          "\t", "\u0000", "\u00e9", "%", "/0", ".if 1", ".end", ".else", "Z").charAt(0);
      switch (below(4)) {
        case 0: bad.deleteCharAt(at); break;
        case 1: bad.insert(at, put); break;
        case 2: bad.insert(at, one(".if 1\n", "\n.end\n", "\n.else\n", "/0", "%0", "((((((((", "-~-~-~-~", "\nq0: NOP\n", ".byte 1,", "<<", "'a", "\n.org 1791\n")); break;
        default: bad.setCharAt(at, put); break;
      }
    }
    if (bad.length() > 2000) bad.setLength(2000);
    return bad.toString();
  }

  /** A text whose lines still have their form, but some are gone, twice there, or others. */
  String shuffled(String whole) {
    List<String> lines = new ArrayList<>(List.of(whole.split("\n")));
    int changes = 1 + below(4);
    if (lines.isEmpty()) lines.add("");
    for (int k = 0; k < changes; k++) {
      int at = below(lines.size());
      String line = lines.get(at);
      switch (below(8)) {
        case 7: lines.add(at, ".org " + one("1791", "1790", "2047", "2048", "3071", "3072", "4095", "4094", "1792", "3080")); break;
        case 0: lines.remove(at); break;
        case 1: lines.add(below(lines.size()), line); break;
        case 2: lines.add(at, one(".if ", ".else", ".end", ".if 0", ".if 1", ".org ", ".bank ", ".fill ", ".byte 1,", ".word ")); break;
        case 3: lines.add(at, "q" + below(3) + " = " + value(3)); break;
        case 4: lines.add(at, one("LDA", "JMP", "BEQ", "BRA", "SHL", "STA", "NOP", "CPX", "X", "ADDS") + " " + place()); break;
        case 5: lines.add(at, ".word " + value(3) + "," + value(2)); break;
        default: lines.add(at, ".byte " + value(3) + "," + value(2)); break;
      }
      String put = lines.isEmpty() ? "" : lines.get(at % lines.size());
      if (put.endsWith(" ") || put.endsWith(",")) lines.set(at % lines.size(), put + value(2) + (put.startsWith(".fill") ? "," + value(1) : ""));
      if (lines.isEmpty()) lines.add("");
    }
    String text = String.join("\n", lines) + "\n";
    return text.length() > 2000 ? text.substring(0, 2000) : text;
  }

  /** Rows of tokens that hardly ever make a text. */
  String rubble() {
    StringBuilder rows = new StringBuilder();
    int count = below(60);
    for (int k = 0; k < count; k++) {
      rows.append(one("a", "bb:", "LDA", "X", ",", "#", "(", ")", "5", "$ff", "'x", "\"t\"", ".byte", ".org", ".if", ".else", ".end",
          ".fill", ".word", ".bank", ".text", " ", " ", " ", "\n", "\n", "=", "+", "-", "*", "<<", ">", "@", ";c", "NOP", "RTS", "1"));
      if (below(2) == 0) rows.append(' ');
      if (below(5) == 0) rows.append('\n');
    }
    return rows.toString();
  }
}
