import java.util.ArrayList;
import java.util.LinkedHashMap;
import java.util.List;
import java.util.Map;
import java.util.regex.Matcher;
import java.util.regex.Pattern;

/** The assembler once more, by patterns and trees, straight from section 6 of the document. */
final class ModelText {
  static final class Refused extends RuntimeException {
    final int error;
    final int at;

    Refused(int error, int at) {
      super("error " + error + " at " + at, null, false, false);
      this.error = error;
      this.at = at;
    }
  }

  static final class Token {
    final String kind;
    final String text;
    final int at;

    Token(String kind, String text, int at) {
      this.kind = kind;
      this.text = text;
      this.at = at;
    }

    boolean is(String sign) {
      return kind.equals("sign") && text.equals(sign);
    }

    Refused refused() {
      return new Refused(1, at);
    }
  }

  interface Node {
    int of(ModelText text);
  }

  static final class Value {
    final List<Token> names = new ArrayList<>();
    Token first;
    Node root;
  }

  static final class Line {
    Token name;
    boolean assigns;
    Token work;
    String place = "";
    Token letters;
    final List<Value> values = new ArrayList<>();
    boolean skipped;
    int code = -1;
    int address;
    int bank;
    int number;
  }

  static final class If {
    boolean outside;
    boolean taken;
    boolean elseSeen;
  }

  private static final Pattern TOKEN = Pattern.compile(
      "(?<name>[a-z][a-z0-9]*)|(?<code>[A-Z]+)|(?<number>[0-9]+|\\$[0-9a-f]*)|(?<char>'[ -~])"
      + "|(?<text>\"[ !#-~]*\")|(?<word>\\.[a-z]*)|(?<sign><<|>>|[-#(),:=+*/%&|^~@<>])");
  private static final List<String> WORDS =
      List.of(".org", ".bank", ".byte", ".word", ".text", ".fill", ".if", ".else", ".end");

  final String tape;
  final Map<String, Integer> names = new LinkedHashMap<>();
  /** By bank, and under 8 what is outside of the WINDOW. */
  final int[][] bytes = new int[9][4096];
  final int[][] lines = new int[9][4096];
  int errorAt = -1;

  private List<Token> tokens;
  private int next;
  private Value current;
  private int here;

  ModelText(String tape) {
    this.tape = tape;
  }

  int assemble() {
    try {
      List<Line> all = parse();
      firstTime(all);
      for (Line line : all) if (!line.skipped && line.work != null) secondTime(line);
      return 0;
    } catch (Refused refused) {
      errorAt = refused.at;
      return refused.error;
    }
  }

  // the form

  private List<Line> parse() {
    List<Line> all = new ArrayList<>();
    int start = 0;
    while (start < tape.length()) {
      if (all.size() == 120) throw new Refused(1, start);
      int end = tape.indexOf('\n', start);
      if (end < 0) end = tape.length();
      tokens = tokens(start, end);
      next = 0;
      Line line = line();
      line.number = all.size() + 1;
      all.add(line);
      start = end + 1;
    }
    return all;
  }

  private List<Token> tokens(int start, int end) {
    List<Token> list = new ArrayList<>();
    Matcher matcher = TOKEN.matcher(tape).region(start, end);
    int at = start;
    while (at < end && tape.charAt(at) != ';') {
      if (tape.charAt(at) == ' ') {
        at++;
        continue;
      }
      matcher.region(at, end);
      if (!matcher.lookingAt()) {
        list.add(new Token("bad", "", at));
        return list;
      }
      list.add(token(matcher, at));
      at = matcher.end();
    }
    list.add(new Token("end", "", end));
    return list;
  }

  private Token token(Matcher m, int at) {
    String s = m.group();
    String kind = "bad";
    if (m.group("name") != null && s.length() <= 8) kind = "name";
    if (m.group("code") != null && s.length() <= 8) kind = "code";
    if (m.group("char") != null) return new Token("number", "" + (int) s.charAt(1), at);
    if (m.group("text") != null && s.length() <= 42) kind = "text";
    if (m.group("word") != null && WORDS.contains(s)) kind = "word";
    if (m.group("sign") != null) kind = "sign";
    if (m.group("number") == null) return new Token(kind, s, at);
    if (s.startsWith("$")) {
      boolean fits = s.length() >= 2 && s.length() <= 5;
      return fits ? new Token("number", "" + Integer.parseInt(s.substring(1), 16), at) : new Token("bad", s, at);
    }
    boolean fits = s.length() <= 5 && Integer.parseInt(s) <= 65535;
    return new Token(fits ? "number" : "bad", s, at);
  }

  private Token peek() {
    return tokens.get(next);
  }

  private Token want(String sign) {
    Token t = peek();
    if (!t.is(sign)) throw t.refused();
    next++;
    return t;
  }

  private Line line() {
    Line line = new Line();
    Token t = peek();
    if (t.kind.equals("name")) {
      line.name = t;
      next++;
      if (peek().is("=")) {
        next++;
        line.assigns = true;
        line.values.add(value(0));
      } else {
        want(":");
      }
    }
    t = peek();
    if (!line.assigns && (t.kind.equals("code") || t.kind.equals("word"))) {
      line.work = t;
      next++;
      if (t.kind.equals("code")) place(line);
      else word(line, t.text);
    }
    if (!peek().kind.equals("end")) throw peek().refused();
    return line;
  }

  private void place(Line line) {
    if (peek().kind.equals("end")) return;
    if (peek().is("#")) {
      next++;
      line.values.add(value(0));
      line.place = "#";
      return;
    }
    if (peek().is("(")) {
      next++;
      line.values.add(value(1));
      want(")");
      line.place = "()";
    } else {
      line.values.add(value(0));
      line.place = "v";
    }
    if (!peek().is(",")) return;
    next++;
    if (!peek().kind.equals("code") || !peek().text.equals("X")) throw peek().refused();
    next++;
    line.place += "X";
  }

  private void word(Line line, String word) {
    if (word.equals(".else") || word.equals(".end")) return;
    if (word.equals(".text")) {
      if (!peek().kind.equals("text")) throw peek().refused();
      line.letters = peek();
      next++;
      return;
    }
    line.values.add(value(0));
    if (word.equals(".fill")) {
      want(",");
      line.values.add(value(0));
    }
    boolean list = word.equals(".byte") || word.equals(".word");
    while (list && peek().is(",")) {
      next++;
      line.values.add(value(0));
    }
  }

  private Value value(int within) {
    current = new Value();
    current.first = peek();
    current.root = sums(within);
    return current;
  }

  private boolean anyOf(String signs) {
    return peek().kind.equals("sign") && (" " + signs + " ").contains(" " + peek().text + " ");
  }

  private Node sums(int within) {
    Node left = sum(within);
    while (anyOf("& | ^ << >>")) left = both(tokens.get(next++).text, left, sum(within));
    return left;
  }

  private Node sum(int within) {
    Node left = product(within);
    while (anyOf("+ -")) left = both(tokens.get(next++).text, left, product(within));
    return left;
  }

  private Node product(int within) {
    Node left = single(within);
    while (anyOf("* / %")) left = both(tokens.get(next++).text, left, single(within));
    return left;
  }

  private Node single(int within) {
    Token t = peek();
    if (t.kind.equals("number")) {
      next++;
      return text -> Integer.parseInt(t.text);
    }
    if (t.kind.equals("name")) {
      next++;
      current.names.add(t);
      return text -> text.names.get(t.text);
    }
    if (t.is("@")) {
      next++;
      return text -> text.here;
    }
    if (!anyOf("( - ~ < >") || within >= 8) throw t.refused();
    next++;
    if (t.is("(")) {
      Node inner = sums(within + 1);
      want(")");
      return inner;
    }
    Node inner = single(within + 1);
    if (t.is("-")) return text -> -inner.of(text);
    if (t.is("~")) return text -> -inner.of(text) - 1;
    if (t.is("<")) return text -> inner.of(text) & 255;
    return text -> inner.of(text) >> 8 & 255;
  }

  private static Node both(String sign, Node left, Node right) {
    return text -> {
      long l = left.of(text);
      long r = right.of(text);
      switch (sign) {
        case "&": return (int) (l & r);
        case "|": return (int) (l | r);
        case "^": return (int) (l ^ r);
        case "<<": return (int) (l << Math.floorMod(r, 32));
        case ">>": return (int) (l >> Math.floorMod(r, 32));
        case "+": return (int) (l + r);
        case "-": return (int) (l - r);
        case "*": return (int) (l * r);
        case "/": return (int) (l / r);
        default: return (int) (l % r);
      }
    };
  }

  // FIRST TIME

  /** null if it is not KNOWN. */
  private Integer known(Value value, boolean must) {
    for (Token name : value.names) {
      if (names.containsKey(name.text)) continue;
      if (must) throw new Refused(4, name.at);
      return null;
    }
    try {
      return value.root.of(this);
    } catch (ArithmeticException byZero) {
      throw new Refused(5, value.first.at);
    }
  }

  private int knownIn(Value value, int least, int most) {
    int v = known(value, true);
    if (v < least || v > most) throw new Refused(5, value.first.at);
    return v;
  }

  private static boolean out(List<If> ifs) {
    for (If one : ifs) if (one.outside || one.taken == one.elseSeen) return true;
    return false;
  }

  private void firstTime(List<Line> all) {
    List<If> ifs = new ArrayList<>();
    int address = 3072;
    int bank = 0;
    for (Line line : all) {
      String word = line.work != null && line.work.kind.equals("word") ? line.work.text : "";
      line.address = address;
      line.bank = bank;
      here = address;
      If top = ifs.isEmpty() ? null : ifs.get(ifs.size() - 1);
      boolean closes = word.equals(".else") || word.equals(".end");
      line.skipped = closes ? top != null && top.outside : out(ifs);
      if (line.name != null && !line.skipped) name(line, address);
      if (closes) {
        if (top == null || word.equals(".else") && top.elseSeen) throw new Refused(3, line.work.at);
        if (word.equals(".end")) ifs.remove(top);
        else top.elseSeen = true;
        continue;
      }
      if (word.equals(".if")) {
        if (ifs.size() == 4) throw new Refused(3, line.work.at);
        If one = new If();
        one.outside = line.skipped;
        one.taken = one.outside || known(line.values.get(0), true) != 0;
        ifs.add(one);
        continue;
      }
      if (line.skipped || line.work == null) continue;
      if (word.equals(".org")) address = knownIn(line.values.get(0), 0, 4095);
      else if (word.equals(".bank")) bank = knownIn(line.values.get(0), 0, 7);
      else address += firstSize(line, word);
    }
    if (!ifs.isEmpty()) throw new Refused(3, tape.length());
  }

  private void name(Line line, int address) {
    if (names.containsKey(line.name.text)) throw new Refused(3, line.name.at);
    names.put(line.name.text, line.assigns ? known(line.values.get(0), true) : address);
  }

  private int firstSize(Line line, String word) {
    if (word.equals(".text")) return line.letters.text.length() - 2;
    if (word.equals("")) return firstCode(line);
    int size = 0;
    for (Value value : line.values) {
      if (word.equals(".fill") && value == line.values.get(0)) {
        size = knownIn(value, 0, 1024);
        continue;
      }
      known(value, false);
      if (word.equals(".byte")) size += 1;
      if (word.equals(".word")) size += 2;
    }
    return size;
  }

  private int codeOf(String name, int m) {
    for (int code = m < 0 ? 0 : 32; code < (m < 0 ? 32 : 208); code++) {
      if (name.equals(Model.State.name(code)) && (m < 0 || code % 8 == m)) return code;
    }
    return -1;
  }

  private int firstCode(Line line) {
    String name = line.work.text;
    boolean branches = List.of(Model.State.BRANCHES).contains(name);
    int code = -1;
    if (branches && line.place.equals("v")) {
      for (int k = 208; k < 218; k++) if (name.equals(Model.State.name(k))) code = k;
    }
    if (!branches) {
      switch (line.place) {
        case "": code = codeOf(name, -1); break;
        case "#": code = codeOf(name, 1); break;
        case "v": code = codeOf(name, 3); break;
        case "vX": code = codeOf(name, 4); break;
        case "()": code = codeOf(name, 5); break;
        default: code = codeOf(name, 6); break;
      }
    }
    if (code < 0) throw new Refused(2, line.work.at);
    if (!line.values.isEmpty()) {
      Integer v = known(line.values.get(0), false);
      boolean small = v != null && v >= 0 && v <= 255;
      if (line.place.equals("v") && !branches && small && codeOf(name, 2) >= 0) code = codeOf(name, 2);
    }
    line.code = code;
    return Model.State.length(code);
  }

  // SECOND TIME

  private int second(Value value, int least, int most) {
    return knownIn(value, least, most);
  }

  private void secondTime(Line line) {
    here = line.address;
    List<Integer> put = new ArrayList<>();
    String word = line.work.kind.equals("word") ? line.work.text : "";
    switch (word) {
      case "": code(line, put); break;
      case ".text":
        for (char letter : line.letters.text.substring(1, line.letters.text.length() - 1).toCharArray()) put.add((int) letter);
        break;
      case ".byte":
        for (Value value : line.values) put.add(second(value, -128, 255));
        break;
      case ".word":
        for (Value value : line.values) word(put, second(value, -32768, 65535));
        break;
      case ".fill":
        int times = known(line.values.get(0), true);
        int filler = second(line.values.get(1), -128, 255);
        for (int k = 0; k < times; k++) put.add(filler);
        break;
      default: break;
    }
    for (int k = 0; k < put.size(); k++) put(line, line.address + k, Math.floorMod(put.get(k), 256));
  }

  private static void word(List<Integer> put, int value) {
    put.add(Math.floorMod(value, 65536) % 256);
    put.add(Math.floorMod(value, 65536) / 256);
  }

  private void code(Line line, List<Integer> put) {
    put.add(line.code);
    if (line.values.isEmpty()) return;
    Value value = line.values.get(0);
    if (line.code >= 208) {
      int to = second(value, 0, 4095);
      int way = to - (line.address + 2);
      if (way < -128 || way > 127) throw new Refused(5, value.first.at);
      put.add(way);
      return;
    }
    int m = line.code % 8;
    if (m == 1) put.add(second(value, -128, 255));
    if (m == 2) put.add(second(value, 0, 4095));
    if (m == 3 || m == 4) word(put, second(value, 0, 4095));
    if (m >= 5) put.add(second(value, 0, 255));
  }

  private void put(Line line, int at, int b) {
    int bank = at >= 2048 && at < 3072 ? line.bank : 8;
    boolean bad = at > 4095 || at >= 1792 && at < 2048;
    if (bad || lines[bank][at] != 0) throw new Refused(6, line.work.at);
    bytes[bank][at] = b;
    lines[bank][at] = line.number;
  }
}
