import java.util.ArrayList;
import java.util.List;
import java.util.NoSuchElementException;

/**
 * The machine and its debugger once more, slowly and straight from the document, with a face of the
 * same names: what FerriteBoard is compared with. The assembler of it stands in ModelText.
 */
final class Model {
  static final class State {
    int[] ram = new int[1792];
    int[][] banks = new int[8][1024];
    int[] rom = new int[1024];
    int[] times = new int[4096];
    int a, x, s, pc, state, cycles, instructions;
    boolean c, z, i, v, n, nmi;
    int bank, mask, pending, count, reload, control, random, from, to;
    List<Integer> in = new ArrayList<>();
    List<Integer> out = new ArrayList<>();
    List<Integer> calls = new ArrayList<>();
    List<Integer> reads = new ArrayList<>();
    List<Integer> writes = new ArrayList<>();

    State copy() {
      State k = new State();
      k.ram = ram.clone();
      for (int b = 0; b < 8; b++) k.banks[b] = banks[b].clone();
      k.rom = rom.clone();
      k.times = times.clone();
      k.a = a; k.x = x; k.s = s; k.pc = pc; k.state = state; k.cycles = cycles; k.instructions = instructions;
      k.c = c; k.z = z; k.i = i; k.v = v; k.n = n; k.nmi = nmi;
      k.bank = bank; k.mask = mask; k.pending = pending; k.count = count; k.reload = reload;
      k.control = control; k.random = random; k.from = from; k.to = to;
      k.in = new ArrayList<>(in);
      k.out = new ArrayList<>(out);
      k.calls = new ArrayList<>(calls);
      return k;
    }

    int flags() {
      return (c ? 1 : 0) + (z ? 2 : 0) + (i ? 4 : 0) + (v ? 8 : 0) + (n ? 16 : 0);
    }

    void flags(int f) {
      c = (f & 1) > 0; z = (f & 2) > 0; i = (f & 4) > 0; v = (f & 8) > 0; n = (f & 16) > 0;
    }

    void reset() {
      a = 0; x = 0; s = 255; flags(4); state = 0; nmi = false;
      bank = mask = pending = count = reload = control = from = to = 0;
      random = 1;
      in.clear(); out.clear(); calls.clear();
      cycles = instructions = 0;
      times = new int[4096];
      pc = vector(0);
    }

    static int addr(int n) {
      return Math.floorMod(n, 4096);
    }

    int peek(int address) {
      address = addr(address);
      if (address < 1792) return ram[address];
      if (address < 2048) return 0;
      if (address < 3072) return banks[bank][address - 2048];
      return rom[address - 3072];
    }

    int word(int address) {
      return peek(address) + 256 * peek(address + 1);
    }

    int vector(int k) {
      return addr(word(4080 + 2 * k));
    }

    int get(int address) {
      address = addr(address);
      reads.add(address);
      if (address < 1792 || address >= 2048) return peek(address);
      int p = address - 1792;
      if (p == 0) return bank;
      if (p == 1) return mask;
      if (p == 2) return pending;
      if (p == 3) return out.size() % 256;
      if (p == 4) return in.isEmpty() ? 0 : in.remove(0);
      if (p == 5) return in.size();
      if (p == 6) return count % 256;
      if (p == 7) return count / 256 % 256;
      if (p == 8) return control;
      if (p == 9) {
        boolean odd = random % 2 == 1;
        random = random / 2;
        if (odd) random ^= 46080;
        return random % 256;
      }
      if (p == 10) return from % 256;
      if (p == 11) return from / 256;
      if (p == 12) return to % 256;
      if (p == 13) return to / 256;
      if (p == 15) return cycles % 256;
      return 0;
    }

    /** Answers the further cycles of the copier. */
    int set(int address, int b) {
      address = addr(address);
      writes.add(address);
      if (address < 1792 || address >= 2048) {
        lay(address, b);
        return 0;
      }
      int p = address - 1792;
      if (p == 0) bank = b % 8;
      if (p == 1) mask = b % 16;
      if (p == 2) pending = pending & (15 - (b & 15));
      if (p == 3) out.add(b);
      if (p == 6) reload = reload - reload % 256 + b;
      if (p == 7) reload = reload % 256 + 256 * b;
      if (p == 8) {
        boolean was = control % 2 == 1;
        control = b % 4;
        if (!was && control % 2 == 1) count = reload == 0 ? 65536 : reload;
      }
      if (p == 9) random = 256 + b;
      if (p == 10) from = from - from % 256 + b;
      if (p == 11) from = from % 256 + 256 * b;
      if (p == 12) to = to - to % 256 + b;
      if (p == 13) to = to % 256 + 256 * b;
      if (p != 14) return 0;
      for (int k = 0; k < b; k++) lay(addr(to + k), peek(from + k));
      if (b != 0) pending |= 8;
      return 2 * b;
    }

    void lay(int address, int b) {
      if (address < 1792) ram[address] = b;
      else if (address >= 2048 && address < 3072 && bank < 4) banks[bank][address - 2048] = b;
    }

    void push(int b) {
      set(256 + s, b);
      s = s == 0 ? 255 : s - 1;
    }

    int pull() {
      s = s == 255 ? 0 : s + 1;
      return get(256 + s);
    }

    void pushAddress(int address) {
      push(address / 256);
      push(address % 256);
    }

    int pullAddress() {
      int low = pull();
      int high = pull();
      return addr(low + 256 * high);
    }

    void called(int address) {
      calls.add(address);
      if (calls.size() > 40) calls.remove(0);
    }

    void returned() {
      if (!calls.isEmpty()) calls.remove(calls.size() - 1);
    }

    void enter(int k) {
      pushAddress(pc);
      push(flags());
      i = true;
      reads.add(4080 + 2 * k);
      reads.add(4081 + 2 * k);
      pc = vector(k);
    }

    boolean vectorNext() {
      return nmi || !i && (pending & mask) != 0;
    }

    boolean ready() {
      return state == 0 && !vectorNext();
    }

    boolean ended() {
      return state >= 2;
    }

    int step() {
      reads.clear();
      writes.clear();
      if (ended()) return 0;
      int took;
      if (vectorNext()) {
        int k = 1;
        if (nmi) nmi = false;
        else for (int line = 3; line >= 0; line--) if ((pending & mask & 1 << line) != 0) k = 2 + line;
        state = 0;
        called(pc);
        enter(k);
        took = 5;
      } else if (state == 1 && (pending & mask) == 0) {
        took = 1;
      } else {
        state = 0;
        took = instruction();
      }
      cycles += took;
      for (int t = 0; t < took; t++) {
        if (control % 2 == 0) continue;
        count--;
        if (count > 0) continue;
        pending |= 1;
        if (control >= 2) count = reload == 0 ? 65536 : reload;
        else control -= 1;
      }
      return took;
    }

    static final String[] PLAIN = {
        "NOP", "HLT", "WAI", "RTS", "RTI", "BRK", "CLC", "SEC", "CLI", "SEI", "TAX", "TXA", "TSX", "TXS",
        "SWP", "MUL", "PHA", "PLA", "PHX", "PLX", "PHP", "PLP", "INX", "DEX", "SHL", "SHR", "ROL", "ROR",
        "SWN", "NEG", "NOT", "DIV"};
    static final int[] PLAIN_COST = {
        1, 1, 1, 3, 4, 6, 1, 1, 1, 1, 1, 1, 1, 1, 1, 9, 2, 2, 2, 2, 2, 2, 1, 1, 1, 1, 1, 1, 1, 1, 1, 9};
    static final String[] MODED = {
        "LDA", "LDX", "ADD", "ADC", "SUB", "SBC", "CMP", "CPX", "AND", "OR", "XOR", "BIT", "STA", "STX",
        "INC", "DEC", "SHL", "SHR", "ROL", "ROR", "JMP", "JSR"};
    static final String[] BRANCHES = {
        "BEQ", "BNE", "BCS", "BCC", "BMI", "BPL", "BVS", "BVC", "BRA", "BSR"};

    static String name(int code) {
      if (code < 32) return PLAIN[code];
      if (code >= 208) return code - 208 < BRANCHES.length ? BRANCHES[code - 208] : null;
      String name = MODED[code / 8 - 4];
      int m = code % 8;
      if (m == 0 || m == 7) return null;
      boolean jumps = name.equals("JMP") || name.equals("JSR");
      if (jumps && (m < 3 || m > 5)) return null;
      if (m == 1 && code / 8 > 15) return null;
      return name;
    }

    static int length(int code) {
      if (name(code) == null) return 0;
      if (code < 32) return 1;
      if (code >= 208) return 2;
      return code % 8 == 3 || code % 8 == 4 ? 3 : 2;
    }

    int zn(int b) {
      z = b == 0;
      n = b > 127;
      return b;
    }

    int instruction() {
      int begin = pc;
      int code = peek(pc);
      String name = name(code);
      if (name == null) {
        state = 3;
        return 1;
      }
      instructions++;
      times[begin]++;
      int lo = peek(pc + 1);
      int hi = peek(pc + 2);
      pc = addr(pc + length(code));
      if (code < 32) {
        plain(name, begin);
        return PLAIN_COST[code];
      }
      if (code >= 208) return branches(name, lo, begin);
      return moded(name, code % 8, lo, hi, begin);
    }

    int branches(String name, int lo, int begin) {
      boolean go = true;
      switch (name) {
        case "BEQ": go = z; break;
        case "BNE": go = !z; break;
        case "BCS": go = c; break;
        case "BCC": go = !c; break;
        case "BMI": go = n; break;
        case "BPL": go = !n; break;
        case "BVS": go = v; break;
        case "BVC": go = !v; break;
        default: break;
      }
      if (name.equals("BSR")) {
        called(begin);
        pushAddress(pc);
      }
      if (go) pc = addr(pc + (byte) lo);
      return name.equals("BSR") ? 5 : go ? 3 : 2;
    }

    void plain(String name, int begin) {
      int old;
      switch (name) {
        case "NOP": break;
        case "HLT": state = 2; break;
        case "WAI": state = 1; break;
        case "RTS": pc = pullAddress(); returned(); break;
        case "RTI": flags(pull() & 31); pc = pullAddress(); returned(); break;
        case "BRK": called(begin); enter(6); break;
        case "CLC": c = false; break;
        case "SEC": c = true; break;
        case "CLI": i = false; break;
        case "SEI": i = true; break;
        case "TAX": x = zn(a); break;
        case "TXA": a = zn(x); break;
        case "TSX": x = zn(s); break;
        case "TXS": s = x; break;
        case "SWP": old = a; a = x; x = old; zn(a); break;
        case "MUL": old = a * x; a = old % 256; x = old / 256; c = x != 0; zn(a); break;
        case "PHA": push(a); break;
        case "PLA": a = zn(pull()); break;
        case "PHX": push(x); break;
        case "PLX": x = zn(pull()); break;
        case "PHP": push(flags()); break;
        case "PLP": flags(pull() & 31); break;
        case "INX": x = zn((x + 1) % 256); break;
        case "DEX": x = zn((x + 255) % 256); break;
        case "SWN": a = zn(a / 16 + a % 16 * 16); break;
        case "NEG": a = zn((256 - a) % 256); break;
        case "NOT": a = zn(255 - a); break;
        case "DIV":
          if (x == 0) {
            v = true;
          } else {
            old = a;
            a = zn(old / x);
            x = old % x;
            v = false;
          }
          break;
        default: a = shift(name, a); break;
      }
    }

    int shift(String name, int b) {
      boolean old = c;
      int r;
      if (name.equals("SHL") || name.equals("ROL")) {
        c = b >= 128;
        r = b * 2 % 256 + (name.equals("ROL") && old ? 1 : 0);
      } else {
        c = b % 2 == 1;
        r = b / 2 + (name.equals("ROR") && old ? 128 : 0);
      }
      return zn(r);
    }

    int moded(String name, int m, int lo, int hi, int begin) {
      int own = m == 3 || m == 4 ? 3 : 2;
      int at = lo + 256 * hi;
      if (m == 2) at = lo;
      if (m == 4) at = at + x;
      if (m >= 5) {
        at = get(lo) + 256 * get((lo + 1) % 256);
        if (m == 6) at += x;
        own += 2;
      }
      at = addr(at);
      switch (name) {
        case "JMP": pc = at; return own;
        case "JSR":
          called(begin);
          pushAddress(pc);
          pc = at;
          return own + 2;
        case "STA": return own + 1 + set(at, a);
        case "STX": return own + 1 + set(at, x);
        case "INC": return own + 2 + set(at, zn((get(at) + 1) % 256));
        case "DEC": return own + 2 + set(at, zn((get(at) + 255) % 256));
        case "SHL": case "SHR": case "ROL": case "ROR": return own + 2 + set(at, shift(name, get(at)));
        default: break;
      }
      operate(name, m == 1 ? lo : get(at));
      return m == 1 ? 2 : own + 1;
    }

    void operate(String name, int b) {
      switch (name) {
        case "LDA": a = zn(b); break;
        case "LDX": x = zn(b); break;
        case "ADD": sum(b, 0); break;
        case "ADC": sum(b, c ? 1 : 0); break;
        case "SUB": sum(255 - b, 1); break;
        case "SBC": sum(255 - b, c ? 1 : 0); break;
        case "CMP": c = a >= b; zn((a - b + 256) % 256); break;
        case "CPX": c = x >= b; zn((x - b + 256) % 256); break;
        case "AND": a = zn(a & b); break;
        case "OR": a = zn(a | b); break;
        case "XOR": a = zn(a ^ b); break;
        case "BIT": z = (a & b) == 0; n = b >= 128; v = b % 128 >= 64; break;
        default: throw new NoSuchElementException(name);
      }
    }

    void sum(int b, int carry) {
      int old = a;
      int r = a + b + carry;
      c = r > 255;
      a = r % 256;
      v = old < 128 && b < 128 && a >= 128 || old >= 128 && b >= 128 && a < 128;
      zn(a);
    }
  }

  State now = new State();
  final List<State> history = new ArrayList<>();
  final List<int[]> breaks = new ArrayList<>();
  final List<int[]> watches = new ArrayList<>();
  int stopped;
  final StringBuilder tape = new StringBuilder();
  int errorAt = -1;
  List<Integer> values = new ArrayList<>();
  int[][] lines = new int[9][4096];

  Model() {
    now.reset();
  }

  private static void legal(boolean is) {
    if (!is) throw new IllegalArgumentException();
  }

  private static void possible(boolean is) {
    if (!is) throw new IllegalStateException();
  }

  private static void there(boolean is) {
    if (!is) throw new IndexOutOfBoundsException();
  }

  private static boolean address(int n) {
    return 0 <= n && n <= 4095;
  }

  int feed(int a, int b, int c, int d, int e) {
    possible(tape.length() + 20 <= 2000);
    for (int n : new int[] {a, b, c, d, e}) {
      for (int k = 24; k >= 0; k -= 8) tape.append((char) (n >>> k & 255));
    }
    history.clear();
    return tape.length();
  }

  int trim(int n) {
    legal(n >= 0 && n <= tape.length());
    tape.setLength(n);
    history.clear();
    return n;
  }

  int assemble() {
    ModelText text = new ModelText(tape.toString());
    tape.setLength(0);
    history.clear();
    int error = text.assemble();
    errorAt = error == 0 ? -1 : text.errorAt;
    if (error != 0) return error;
    values = new ArrayList<>(text.names.values());
    lines = text.lines;
    now.ram = java.util.Arrays.copyOf(text.bytes[8], 1792);
    now.rom = java.util.Arrays.copyOfRange(text.bytes[8], 3072, 4096);
    for (int b = 0; b < 8; b++) now.banks[b] = java.util.Arrays.copyOfRange(text.bytes[b], 2048, 3072);
    breaks.clear();
    watches.clear();
    stopped = 0;
    now.reset();
    return 0;
  }

  int errorAt() { return errorAt; }
  int names() { return values.size(); }

  int valueOf(int name) {
    there(name >= 0 && name < values.size());
    return values.get(name);
  }

  int nameNear(int address) {
    legal(address(address));
    int best = -1;
    for (int k = values.size() - 1; k >= 0; k--) {
      int v = values.get(k);
      if (v >= 0 && v <= address && (best < 0 || v >= values.get(best))) best = k;
    }
    return best;
  }

  int lineOf(int address) {
    legal(address(address));
    int line = lines[address >= 2048 && address < 3072 ? now.bank : 8][address];
    return line == 0 ? -1 : line;
  }

  int reset() {
    now.reset();
    stopped = 0;
    history.clear();
    return now.pc;
  }

  int key(int value) {
    legal(value >= 0 && value <= 255);
    possible(now.in.size() < 16);
    now.in.add(value);
    now.pending |= 2;
    history.clear();
    return now.in.size();
  }

  int signal() {
    now.pending |= 4;
    history.clear();
    return now.pending;
  }

  boolean nmi() {
    boolean was = now.nmi;
    now.nmi = true;
    history.clear();
    return was;
  }

  int poke(int address, int value) {
    legal(address(address) && (address < 1792 || address > 2047) && value >= 0 && value <= 255);
    int was = now.peek(address);
    if (address < 1792) now.ram[address] = value;
    else if (address < 3072) now.banks[now.bank][address - 2048] = value;
    else now.rom[address - 3072] = value;
    history.clear();
    return was;
  }

  int setRegister(int register, int value) {
    there(register >= 0 && register <= 4);
    legal(value >= 0 && value <= new int[] {255, 255, 255, 31, 4095}[register]);
    int was = new int[] {now.a, now.x, now.s, now.flags(), now.pc}[register];
    if (register == 0) now.a = value;
    if (register == 1) now.x = value;
    if (register == 2) now.s = value;
    if (register == 3) now.flags(value);
    if (register == 4) now.pc = value;
    history.clear();
    return was;
  }

  int step() {
    if (now.ended()) return 0;
    history.add(now.copy());
    if (history.size() > 200) history.remove(0);
    return now.step();
  }

  private int ended() {
    return now.state == 2 ? 4 : now.state == 3 ? 5 : 0;
  }

  private int go(int most, int calls) {
    int took = 0;
    stopped = ended();
    while (stopped == 0) {
      took += step();
      stopped = why(took, most, calls);
    }
    return took;
  }

  private int why(int took, int most, int calls) {
    if (ended() != 0) return ended();
    if (now.calls.size() <= calls) return 6;
    for (int[] w : watches) {
      for (int r : now.reads) if (w[2] == 1 && r >= w[0] && r <= w[1]) return 3;
      for (int r : now.writes) if (w[3] == 1 && r >= w[0] && r <= w[1]) return 3;
    }
    if (took >= most) return 1;
    if (!now.ready()) return 0;
    for (int[] b : breaks) {
      if (b[0] != now.pc) continue;
      if (b[1] == 0) return 2;
      b[1]--;
    }
    return 0;
  }

  int run(int cycles) {
    legal(cycles >= 1 && cycles <= 5000);
    return go(cycles, -1);
  }

  int stepOver() {
    String name = State.name(now.peek(now.pc));
    if (now.ready() && ("JSR".equals(name) || "BSR".equals(name))) return go(5000, now.calls.size());
    int took = step();
    stopped = ended() == 0 ? 6 : ended();
    return took;
  }

  int stepOut() {
    return go(5000, now.calls.size() - 1);
  }

  int back(int steps) {
    legal(steps >= 1 && steps <= 200);
    stopped = 0;
    int taken = 0;
    while (taken < steps && !history.isEmpty()) {
      now = history.remove(history.size() - 1);
      taken++;
    }
    return taken;
  }

  int stopped() { return stopped; }
  int history() { return history.size(); }

  int setBreak(int address, int skips) {
    legal(address(address) && skips >= 0 && skips <= 1000);
    for (int[] b : breaks) {
      if (b[0] == address) {
        b[1] = skips;
        return breaks.size();
      }
    }
    possible(breaks.size() < 6);
    breaks.add(new int[] {address, skips});
    return breaks.size();
  }

  int clearBreak(int address) {
    for (int[] b : breaks) {
      if (b[0] == address) {
        breaks.remove(b);
        return b[1];
      }
    }
    return -1;
  }

  int setWatch(int from, int to, boolean onRead, boolean onWrite) {
    legal(address(from) && address(to) && to >= from);
    possible(watches.size() < 4);
    watches.add(new int[] {from, to, onRead ? 1 : 0, onWrite ? 1 : 0});
    return watches.size();
  }

  int clearWatches() {
    int were = watches.size();
    watches.clear();
    return were;
  }

  int a() { return now.a; }
  int x() { return now.x; }
  int s() { return now.s; }
  int flags() { return now.flags(); }
  int pc() { return now.pc; }
  int state() { return now.state; }
  int cycles() { return now.cycles; }
  int instructions() { return now.instructions; }

  int byteAt(int address) {
    legal(address(address));
    return now.peek(address);
  }

  int byteIn(int bank, int place) {
    there(bank >= 0 && bank <= 7);
    legal(place >= 0 && place <= 1023);
    return now.banks[bank][place];
  }

  int bank() { return now.bank; }
  int mask() { return now.mask; }
  int pending() { return now.pending; }
  int count() { return now.count; }
  int inputs() { return now.in.size(); }
  int outputs() { return now.out.size(); }

  int outputAt(int back) {
    there(back >= 0 && back <= 39 && back < now.out.size());
    return now.out.get(now.out.size() - 1 - back);
  }

  int calls() { return now.calls.size(); }

  int callAt(int call) {
    there(call >= 0 && call < now.calls.size());
    return now.calls.get(now.calls.size() - 1 - call);
  }

  int timesAt(int address) {
    legal(address(address));
    return now.times[address];
  }

  int hottest() {
    int best = 0;
    for (int k = 0; k < 4096; k++) if (now.times[k] > now.times[best]) best = k;
    return now.times[best] == 0 ? -1 : best;
  }

  int codeAt(int address) {
    legal(address(address));
    return State.name(now.peek(address)) == null ? -1 : now.peek(address);
  }

  int lengthAt(int address) {
    legal(address(address));
    return State.length(now.peek(address));
  }

  int operandAt(int address) {
    legal(address(address));
    return operand(now.peek(address), address);
  }

  private int operand(int code, int address) {
    int length = State.length(code);
    if (length < 2) return -1;
    if (code >= 208) return State.addr(address + 2 + (byte) now.peek(address + 1));
    return length == 2 ? now.peek(address + 1) : now.word(address + 1);
  }

  int cyclesToHalt(int most) {
    legal(most >= 1 && most <= 5000);
    State would = now.copy();
    int took = 0;
    while (!would.ended()) {
      if (took >= most) return -1;
      took += would.step();
    }
    return took;
  }

  int cyclesToReach(int address, int most) {
    legal(address(address) && most >= 1 && most <= 5000);
    State would = now.copy();
    int took = 0;
    while (!(would.ready() && would.pc == address)) {
      if (would.ended() || took >= most) return -1;
      took += would.step();
    }
    return took;
  }

  int outputsIn(int cycles) {
    legal(cycles >= 1 && cycles <= 5000);
    State would = now.copy();
    int took = 0;
    while (!would.ended() && took < cycles) took += would.step();
    return would.out.size() - now.out.size();
  }

  int writesIn(int address, int cycles) {
    legal(address(address) && cycles >= 1 && cycles <= 5000);
    State would = now.copy();
    int took = 0;
    int count = 0;
    while (!would.ended() && took < cycles) {
      took += would.step();
      for (int w : would.writes) if (w == address) count++;
    }
    return count;
  }

  private boolean[] code() {
    boolean[] come = new boolean[4096];
    come[now.pc] = true;
    for (int k = 0; k < 8; k++) come[now.vector(k)] = true;
    boolean more = true;
    while (more) {
      more = false;
      for (int at = 0; at < 4096; at++) {
        if (!come[at]) continue;
        for (int to : from(at)) {
          if (!come[to]) more = true;
          come[to] = true;
        }
      }
    }
    for (int at = 0; at < 4096; at++) if (State.name(now.peek(at)) == null) come[at] = false;
    return come;
  }

  private List<Integer> from(int at) {
    List<Integer> to = new ArrayList<>();
    int code = now.peek(at);
    String name = State.name(code);
    if (name == null) return to;
    if (!List.of("HLT", "RTS", "RTI", "JMP", "BRA").contains(name)) to.add(State.addr(at + State.length(code)));
    if ((name.equals("JMP") || name.equals("JSR")) && code % 8 == 3 || code >= 208) {
      to.add(State.addr(operand(code, at)));
    }
    if (name.equals("BRK")) to.add(now.vector(6));
    return to;
  }

  boolean isCode(int address) {
    legal(address(address));
    return code()[address];
  }

  int codes() {
    int count = 0;
    for (boolean is : code()) if (is) count++;
    return count;
  }

  double meanCycles() {
    return now.instructions == 0 ? 0 : now.cycles / (double) now.instructions;
  }

  long digest() {
    List<Integer> all = new ArrayList<>();
    for (int n : new int[] {a(), x(), s(), flags(), pc(), state(), cycles(), instructions(), bank(), mask(),
        pending(), count(), inputs(), outputs(), stopped(), history(), calls()}) {
      all.add(n);
    }
    for (int k = 0; k < calls(); k++) all.add(callAt(k));
    all.add(names());
    all.addAll(values);
    all.add(hottest());
    all.add(codes());
    for (int b : now.ram) all.add(b);
    for (int[] bank : now.banks) for (int b : bank) all.add(b);
    for (int b : now.rom) all.add(b);
    for (int k = 0; k < outputs() && k < 40; k++) all.add(outputAt(k));
    long d = 58008;
    for (int n : all) d = d * 31 + n;
    return d;
  }
}
