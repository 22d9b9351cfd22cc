import java.util.Arrays;

/** An eight-bit machine with its assembler and its debugger. */
public final class FerriteBoard {
  private static final int ADDRESSES = 4096;
  private static final int LAST_ADDRESS = 4095;
  private static final int PORTS = 1792;
  private static final int WINDOW = 2048;
  private static final int ROM = 3072;
  private static final int BANK_SIZE = 1024;
  private static final int BANKS = 8;
  private static final int VECTORS = 4080;
  private static final int VECTOR_COUNT = 8;
  private static final int STACK = 256;

  // All memory stands in one row, in the order in which digest() reads it.
  private static final int BANK_PLACES = 1792;
  private static final int ROM_PLACES = 9984;
  private static final int VECTOR_PLACES = 10992;
  private static final int PLACES = 11008;
  private static final int WRITABLE_PLACES = 5888;

  private static final int RUNNING = 0;
  private static final int WAITING = 1;
  private static final int HALTED = 2;
  private static final int BROKEN = 3;

  private static final int C = 1;
  private static final int Z = 2;
  private static final int I = 4;
  private static final int V = 8;
  private static final int N = 16;

  private static final int HLT = 1;
  private static final int RTS = 3;
  private static final int RTI = 4;
  private static final int BRK = 5;
  private static final int BRA = 216;
  private static final int BSR = 217;
  private static final int JMP_GROUP = 24;
  private static final int JSR_GROUP = 25;

  private static final int CALLS_AT_MOST = 40;
  private static final int OUTPUTS_KEPT = 40;
  private static final int INPUTS_AT_MOST = 16;
  private static final int STEPS_KEPT = 200;
  private static final int CYCLES_AT_MOST = 5000;
  private static final int SKIPS_AT_MOST = 1000;
  private static final int TAPE_SIZE = 2000;
  private static final int FEED_SIZE = 20;
  private static final int LINES_AT_MOST = 120;
  private static final int IFS_AT_MOST = 4;
  private static final int NESTED_AT_MOST = 8;
  /** No loop of steps comes near it: a step takes a cycle at least. */
  private static final int LOOP_LIMIT = 1000000;

  private static final int BY_CYCLES = 1;
  private static final int BY_BREAK = 2;
  private static final int BY_WATCH = 3;
  private static final int BY_HALT = 4;
  private static final int BY_BROKEN = 5;
  private static final int BY_CALLS = 6;

  // Kinds of tokens; the other ones are their own first byte, two of it 256 more.
  private static final int BAD = 0;
  private static final int LINE_END = 10;
  private static final int TEXT = '"';
  private static final int NUMBER = '0';
  private static final int WORD = '.';
  private static final int NAME = 'a';
  private static final int CODE = 'A';
  private static final int DOUBLED = 256;
  private static final int SHIFT_LEFT = DOUBLED + '<';
  private static final int SHIFT_RIGHT = DOUBLED + '>';
  private static final String SINGLE_BYTES = "#(),:=+-*/%&|^~@<>";

  private static final int DIGITS = 1;
  private static final int HEX_LETTERS = 2;
  private static final int SMALL_LETTERS = 4;
  private static final int LARGE_LETTERS = 8;

  private static final String WORDS = "org bankbytewordtextfillif  elseend ";
  private static final int WORD_WIDTH = 4;
  private static final int ORG = 0;
  private static final int BANK = 1;
  private static final int BYTES = 2;
  private static final int DOUBLE_BYTES = 3;
  private static final int LETTERS = 4;
  private static final int FILL = 5;
  private static final int IF = 6;
  private static final int ELSE = 7;
  private static final int END = 8;

  private static final String PLAIN_CODES =
      "NOPHLTWAIRTSRTIBRKCLCSECCLISEITAXTXATSXTXSSWPMULPHAPLAPHXPLXPHPPLPINXDEXSHLSHRROLRORSWNNEGNOTDIV";
  private static final String MODED_CODES =
      "LDALDXADDADCSUBSBCCMPCPXANDOR XORBITSTASTXINCDECSHLSHRROLRORJMPJSR";
  private static final String BRANCH_CODES = "BEQBNEBCSBCCBMIBPLBVSBVCBRABSR";
  private static final int CODE_WIDTH = 3;
  private static final int FIRST_MODED_GROUP = 4;
  private static final int FIRST_BRANCH = 208;

  private static final int NO_PLACE = 0;
  private static final int NUMBER_ITSELF = 1;
  private static final int SHORT_ADDRESS = 2;
  private static final int LONG_ADDRESS = 3;
  private static final int INDEXED = 4;
  private static final int BY_WORD = 5;
  private static final int BY_WORD_INDEXED = 6;

  private static final int[] BRANCH_FLAGS = {Z, C, N, V};

  private final Text text = new Text();
  private final Names names = new Names();
  private final Values values = new Values(text, names);
  private final Syntax syntax = new Syntax(text, values);
  private final Passes passes = new Passes(text, values, names, syntax);
  private final Machine machine = new Machine();
  private final Machine trial = new Machine();
  private final History history = new History();
  private final Stops stops = new Stops();
  private final Reach reach = new Reach();

  public FerriteBoard() {
    machine.restart();
  }

  // ---- the text

  public int feed(int a, int b, int c, int d, int e) throws IllegalStateException {
    if (text.length + FEED_SIZE > TAPE_SIZE) throw new IllegalStateException("the tape is full");
    text.append(a);
    text.append(b);
    text.append(c);
    text.append(d);
    text.append(e);
    history.forget();
    return text.length;
  }

  public int trim(int n) throws IllegalArgumentException {
    if (n < 0 || n > text.length) throw new IllegalArgumentException("no such length");
    text.length = n;
    history.forget();
    return n;
  }

  public int assemble() {
    text.split();
    names.begin();
    passes.begin();
    int refused = syntax.firstFault();
    if (refused >= 0) passes.refuse(1, refused);
    else passes.firstTime();
    if (passes.error == 0) passes.secondTime();
    text.length = 0;
    history.forget();
    if (passes.error == 0) takeOver();
    return passes.error;
  }

  private void takeOver() {
    passes.keepLines();
    names.keep();
    System.arraycopy(passes.image, 0, machine.memory, 0, PLACES);
    stops.forget();
    machine.restart();
  }

  public int errorAt() {
    return passes.errorPosition;
  }

  public int names() {
    return names.kept;
  }

  public int valueOf(int name) throws IndexOutOfBoundsException {
    if (name < 0 || name >= names.kept) throw new IndexOutOfBoundsException("no such name");
    return at(names.keptValues, name);
  }

  public int nameNear(int address) throws IllegalArgumentException {
    if (isNoAddress(address)) throw new IllegalArgumentException("no address");
    return names.nearest(address);
  }

  public int lineOf(int address) throws IllegalArgumentException {
    if (isNoAddress(address)) throw new IllegalArgumentException("no address");
    int line = at(passes.keptLines, placeOf(address, machine.ports.bank));
    return line > 0 ? line : -1;
  }

  // ---- from outside

  public int reset() {
    history.forget();
    stops.reason = 0;
    machine.restart();
    return machine.pc;
  }

  public int key(int value) throws IllegalArgumentException, IllegalStateException {
    if (isNoByte(value)) throw new IllegalArgumentException("no byte");
    if (machine.ports.inputCount >= INPUTS_AT_MOST) throw new IllegalStateException("INPUT is full");
    history.forget();
    machine.ports.take(value);
    return machine.ports.inputCount;
  }

  public int signal() {
    history.forget();
    machine.ports.pending |= 4;
    return machine.ports.pending;
  }

  public boolean nmi() {
    boolean wanted = machine.nmiWanted;
    history.forget();
    machine.nmiWanted = true;
    return wanted;
  }

  public int poke(int address, int value) throws IllegalArgumentException {
    if (isNoAddress(address) || isPort(address)) throw new IllegalArgumentException("no memory");
    if (isNoByte(value)) throw new IllegalArgumentException("no byte");
    int place = placeOf(address, machine.ports.bank);
    int old = at(machine.memory, place);
    history.forget();
    put(machine.memory, place, value);
    return old;
  }

  public int setRegister(int register, int value)
      throws IndexOutOfBoundsException, IllegalArgumentException {
    if (register < 0 || register > 4) throw new IndexOutOfBoundsException("no such register");
    int most = register == 4 ? LAST_ADDRESS : register == 3 ? 31 : 255;
    if (value < 0 || value > most) throw new IllegalArgumentException("it cannot be that");
    history.forget();
    return machine.exchange(register, value);
  }

  // ---- steps

  public int step() {
    if (machine.endReason() != 0) return 0;
    history.keepUp(machine);
    return machine.advance();
  }

  public int run(int cycles) throws IllegalArgumentException {
    if (isNoSpan(cycles)) throw new IllegalArgumentException("not 1 to 5000 cycles");
    return goOn(cycles, -1);
  }

  public int stepOver() {
    if (machine.isReady() && machine.isAtCall()) return goOn(CYCLES_AT_MOST, machine.callCount);
    int taken = step();
    int end = machine.endReason();
    stops.reason = end != 0 ? end : BY_CALLS;
    return taken;
  }

  public int stepOut() {
    return goOn(CYCLES_AT_MOST, machine.callCount - 1);
  }

  public int back(int steps) throws IllegalArgumentException {
    if (steps < 1 || steps > STEPS_KEPT) throw new IllegalArgumentException("not 1 to 200 steps");
    stops.reason = 0;
    return history.rewind(machine, steps);
  }

  public int stopped() {
    return stops.reason;
  }

  public int history() {
    return history.size;
  }

  public int setBreak(int address, int skips)
      throws IllegalArgumentException, IllegalStateException {
    if (isNoAddress(address)) throw new IllegalArgumentException("no address");
    if (skips < 0 || skips > SKIPS_AT_MOST) throw new IllegalArgumentException("not 0 to 1000 skips");
    if (stops.breakIndex(address) < 0 && stops.breakCount >= Stops.BREAKS) {
      throw new IllegalStateException("there are 6 breaks");
    }
    stops.addBreak(address, skips);
    return stops.breakCount;
  }

  public int clearBreak(int address) {
    return stops.dropBreak(address);
  }

  public int setWatch(int from, int to, boolean onRead, boolean onWrite)
      throws IllegalArgumentException, IllegalStateException {
    if (isNoAddress(from) || isNoAddress(to)) throw new IllegalArgumentException("no address");
    if (to < from) throw new IllegalArgumentException("it ends ahead of its beginning");
    if (stops.watchCount >= Stops.WATCHES) throw new IllegalStateException("there are 4 watches");
    stops.addWatch(from, to, onRead, onWrite);
    return stops.watchCount;
  }

  public int clearWatches() {
    int there = stops.watchCount;
    stops.watchCount = 0;
    return there;
  }

  /** Does steps as run() does, and stops as well with so many CALLS as the aim, or fewer. */
  private int goOn(int most, int aim) {
    int taken = 0;
    int reason = machine.endReason();
    for (int i = 0; i < LOOP_LIMIT && reason == 0; i++) {
      history.keepUp(machine);
      taken += machine.advance();
      reason = reasonToStop(taken >= most, aim);
    }
    stops.reason = reason;
    return taken;
  }

  private int reasonToStop(boolean tookAll, int aim) {
    int end = machine.endReason();
    if (end != 0) return end;
    if (machine.callCount <= aim) return BY_CALLS;
    if (stops.isHit(machine)) return BY_WATCH;
    if (tookAll) return BY_CYCLES;
    return machine.isReady() && stops.breaksAt(machine.pc) ? BY_BREAK : 0;
  }

  // ---- the machine, asked

  public int a() {
    return machine.a;
  }

  public int x() {
    return machine.x;
  }

  public int s() {
    return machine.s;
  }

  public int flags() {
    return machine.flags;
  }

  public int pc() {
    return machine.pc;
  }

  public int state() {
    return machine.state;
  }

  public int cycles() {
    return machine.cycles;
  }

  public int instructions() {
    return machine.instructions;
  }

  public int byteAt(int address) throws IllegalArgumentException {
    if (isNoAddress(address)) throw new IllegalArgumentException("no address");
    return machine.shown(address);
  }

  public int byteIn(int bank, int place)
      throws IndexOutOfBoundsException, IllegalArgumentException {
    if (bank < 0 || bank >= BANKS) throw new IndexOutOfBoundsException("no such bank");
    if (place < 0 || place >= BANK_SIZE) throw new IllegalArgumentException("no such place");
    return at(machine.memory, BANK_PLACES + bank * BANK_SIZE + place);
  }

  public int bank() {
    return machine.ports.bank;
  }

  public int mask() {
    return machine.ports.mask;
  }

  public int pending() {
    return machine.ports.pending;
  }

  public int count() {
    return machine.ports.timer;
  }

  public int inputs() {
    return machine.ports.inputCount;
  }

  public int outputs() {
    return machine.ports.outputCount;
  }

  public int outputAt(int back) throws IndexOutOfBoundsException {
    if (back < 0 || back >= machine.ports.outputsKept()) {
      throw new IndexOutOfBoundsException("no such output");
    }
    return machine.ports.latest(back);
  }

  public int calls() {
    return machine.callCount;
  }

  public int callAt(int call) throws IndexOutOfBoundsException {
    if (call < 0 || call >= machine.callCount) throw new IndexOutOfBoundsException("no such call");
    return at(machine.callers, machine.callCount - 1 - call);
  }

  public int timesAt(int address) throws IllegalArgumentException {
    if (isNoAddress(address)) throw new IllegalArgumentException("no address");
    return at(machine.times, address);
  }

  public int hottest() {
    return machine.busiest();
  }

  public int codeAt(int address) throws IllegalArgumentException {
    if (isNoAddress(address)) throw new IllegalArgumentException("no address");
    int code = machine.shown(address);
    return lengthOf(code) > 0 ? code : -1;
  }

  public int lengthAt(int address) throws IllegalArgumentException {
    if (isNoAddress(address)) throw new IllegalArgumentException("no address");
    return lengthOf(machine.shown(address));
  }

  public int operandAt(int address) throws IllegalArgumentException {
    if (isNoAddress(address)) throw new IllegalArgumentException("no address");
    return machine.operand(address);
  }

  // ---- what would be

  public int cyclesToHalt(int most) throws IllegalArgumentException {
    if (isNoSpan(most)) throw new IllegalArgumentException("not 1 to 5000 cycles");
    trial.copyFrom(machine);
    int taken = 0;
    for (int i = 0; i < LOOP_LIMIT && taken < most && trial.endReason() == 0; i++) {
      taken += trial.advance();
    }
    return trial.endReason() != 0 ? taken : -1;
  }

  public int cyclesToReach(int address, int most) throws IllegalArgumentException {
    if (isNoAddress(address)) throw new IllegalArgumentException("no address");
    if (isNoSpan(most)) throw new IllegalArgumentException("not 1 to 5000 cycles");
    trial.copyFrom(machine);
    int taken = 0;
    boolean reached = trial.isReadyAt(address);
    for (int i = 0; i < LOOP_LIMIT && !reached && taken < most && trial.endReason() == 0; i++) {
      taken += trial.advance();
      reached = trial.isReadyAt(address);
    }
    return reached ? taken : -1;
  }

  public int outputsIn(int cycles) throws IllegalArgumentException {
    if (isNoSpan(cycles)) throw new IllegalArgumentException("not 1 to 5000 cycles");
    trial.copyFrom(machine);
    int taken = 0;
    for (int i = 0; i < LOOP_LIMIT && taken < cycles && trial.endReason() == 0; i++) {
      taken += trial.advance();
    }
    return trial.ports.outputCount - machine.ports.outputCount;
  }

  public int writesIn(int address, int cycles) throws IllegalArgumentException {
    if (isNoAddress(address)) throw new IllegalArgumentException("no address");
    if (isNoSpan(cycles)) throw new IllegalArgumentException("not 1 to 5000 cycles");
    trial.copyFrom(machine);
    int taken = 0;
    int writes = 0;
    for (int i = 0; i < LOOP_LIMIT && taken < cycles && trial.endReason() == 0; i++) {
      taken += trial.advance();
      writes += trial.writesTo(address);
    }
    return writes;
  }

  public boolean isCode(int address) throws IllegalArgumentException {
    if (isNoAddress(address)) throw new IllegalArgumentException("no address");
    reach.explore(machine);
    return at(reach.begins, address) != 0;
  }

  public int codes() {
    reach.explore(machine);
    return reach.found;
  }

  public double meanCycles() {
    if (machine.instructions == 0) return 0;
    return (double) machine.cycles / machine.instructions;
  }

  public long digest() {
    reach.explore(machine);
    long d = machine.mixRegisters(58008);
    d = machine.ports.mixCounts(d);
    d = d * 31 + stops.reason;
    d = d * 31 + history.size;
    d = machine.mixCalls(d);
    d = names.mix(d);
    d = d * 31 + machine.busiest();
    d = d * 31 + reach.found;
    for (int i = 0; i < PLACES; i++) d = d * 31 + at(machine.memory, i);
    return machine.ports.mixOutputs(d);
  }

  // ---- what all parts use

  private static boolean isNoAddress(int address) {
    return address < 0 || address > LAST_ADDRESS;
  }

  private static boolean isNoByte(int value) {
    return value < 0 || value > 255;
  }

  private static boolean isNoSpan(int cycles) {
    return cycles < 1 || cycles > CYCLES_AT_MOST;
  }

  private static boolean isPort(int address) {
    return address >= PORTS && address < WINDOW;
  }

  private static int at(int[] row, int i) {
    return i >= 0 && i < row.length ? row[i] : 0;
  }

  private static long at(long[] row, int i) {
    return i >= 0 && i < row.length ? row[i] : 0;
  }

  private static void put(int[] row, int i, int value) {
    if (i >= 0 && i < row.length) row[i] = value;
  }

  private static void put(long[] row, int i, long value) {
    if (i >= 0 && i < row.length) row[i] = value;
  }

  /** Where in the row of all memory the byte at an address stands; -1 for PORTS. */
  private static int placeOf(int address, int bank) {
    if (address < PORTS) return address;
    if (address < WINDOW) return -1;
    if (address < ROM) return BANK_PLACES + bank * BANK_SIZE + address - WINDOW;
    return ROM_PLACES + address - ROM;
  }

  private static boolean hasMode(int group, int mode) {
    if (group >= JMP_GROUP) return mode >= LONG_ADDRESS && mode <= BY_WORD;
    int least = group < 16 ? NUMBER_ITSELF : SHORT_ADDRESS;
    return mode >= least && mode <= BY_WORD_INDEXED;
  }

  /** How many bytes an instruction has; 0 if the code is none. */
  private static int lengthOf(int code) {
    int group = code >> 3;
    int mode = code & 7;
    if (group < FIRST_MODED_GROUP) return 1;
    if (code >= FIRST_BRANCH) return code <= BSR ? 2 : 0;
    if (!hasMode(group, mode)) return 0;
    return mode == LONG_ADDRESS || mode == INDEXED ? 3 : 2;
  }

  private static int signed(int value) {
    return value < 128 ? value : value - 256;
  }

  /** Which entry of a list, all of one width, has these letters (see Text.packed); -1 if none. */
  private static int entryOf(String list, int width, long letters) {
    for (int entry = 0; (entry + 1) * width <= list.length(); entry++) {
      long packed = 0;
      for (int i = 0; i < width; i++) {
        char letter = list.charAt(entry * width + i);
        if (letter != ' ') packed = packed << 8 | letter;
      }
      if (packed == letters) return entry;
    }
    return -1;
  }

  /** The registers, the memory and what they do in a step. */
  private static final class Machine {
    final int[] memory = new int[PLACES];
    final int[] times = new int[ADDRESSES];
    final int[] callers = new int[CALLS_AT_MOST];
    /** What the latest step read, and wrote (ADDRESSES more), elsewhere than in its instruction. */
    final int[] touched = new int[8];
    final Ports ports = new Ports();
    int a;
    int x;
    int s;
    int flags;
    int pc;
    int state;
    int cycles;
    int instructions;
    int callCount;
    int touches;
    /** Cycles of the step beside those of what it touched. */
    int extra;
    boolean nmiWanted;

    void restart() {
      Arrays.fill(times, 0);
      ports.clear();
      a = 0;
      x = 0;
      s = 255;
      flags = I;
      pc = vector(0);
      state = RUNNING;
      cycles = 0;
      instructions = 0;
      callCount = 0;
      touches = 0;
      nmiWanted = false;
    }

    void copyFrom(Machine other) {
      System.arraycopy(other.memory, 0, memory, 0, PLACES);
      System.arraycopy(other.times, 0, times, 0, ADDRESSES);
      System.arraycopy(other.callers, 0, callers, 0, CALLS_AT_MOST);
      ports.copyFrom(other.ports);
      a = other.a;
      x = other.x;
      s = other.s;
      flags = other.flags;
      pc = other.pc;
      state = other.state;
      cycles = other.cycles;
      instructions = other.instructions;
      callCount = other.callCount;
      touches = 0;
      nmiWanted = other.nmiWanted;
    }

    int exchange(int register, int value) {
      int old = register == 0 ? a : register == 1 ? x : register == 2 ? s : register == 3 ? flags : pc;
      if (register == 0) a = value;
      if (register == 1) x = value;
      if (register == 2) s = value;
      if (register == 3) flags = value;
      if (register == 4) pc = value;
      return old;
    }

    // what it is at

    int shown(int address) {
      return at(memory, placeOf(address & LAST_ADDRESS, ports.bank));
    }

    int wordAt(int address) {
      return shown(address) + 256 * shown(address + 1);
    }

    int vector(int k) {
      int place = VECTOR_PLACES + 2 * k;
      return at(memory, place) + 256 * at(memory, place + 1) & LAST_ADDRESS;
    }

    int operand(int address) {
      int code = shown(address);
      int length = lengthOf(code);
      if (length < 2) return -1;
      if (code >= FIRST_BRANCH) return address + 2 + signed(shown(address + 1)) & LAST_ADDRESS;
      return length == 2 ? shown(address + 1) : wordAt(address + 1);
    }

    int endReason() {
      return state == HALTED ? BY_HALT : state == BROKEN ? BY_BROKEN : 0;
    }

    /** Whether it is RUNNING, and no vector would be taken next. */
    boolean isReady() {
      return state == RUNNING && !nmiWanted && ((flags & I) != 0 || ports.wanting() == 0);
    }

    boolean isReadyAt(int address) {
      return pc == address && isReady();
    }

    boolean isAtCall() {
      int code = shown(pc);
      return code == BSR || code >> 3 == JSR_GROUP && lengthOf(code) > 0;
    }

    int busiest() {
      int best = -1;
      int most = 0;
      for (int i = 0; i < ADDRESSES; i++) {
        if (at(times, i) > most) {
          most = at(times, i);
          best = i;
        }
      }
      return best;
    }

    int writesTo(int address) {
      int writes = 0;
      for (int i = 0; i < touches; i++) {
        if (at(touched, i) == address + ADDRESSES) writes++;
      }
      return writes;
    }

    long mixRegisters(long d) {
      d = d * 31 + a;
      d = d * 31 + x;
      d = d * 31 + s;
      d = d * 31 + flags;
      d = d * 31 + pc;
      d = d * 31 + state;
      d = d * 31 + cycles;
      return d * 31 + instructions;
    }

    long mixCalls(long d) {
      d = d * 31 + callCount;
      for (int i = callCount - 1; i >= 0; i--) d = d * 31 + at(callers, i);
      return d;
    }

    // what it does

    /** Does a step and answers its cycles. */
    int advance() {
      touches = 0;
      extra = 0;
      if (endReason() != 0) return 0;
      int wanting = ports.wanting();
      if (nmiWanted) {
        nmiWanted = false;
        takeBy(1);
      } else if (wanting != 0 && (flags & I) == 0) {
        takeBy(2 + ports.firstWanting());
      } else if (state == WAITING && wanting == 0) {
        extra = 1;
      } else {
        state = RUNNING;
        carryOut();
      }
      int taken = touches + extra;
      cycles += taken;
      ports.pass(taken);
      return taken;
    }

    private void takeBy(int k) {
      state = RUNNING;
      enter(k, pc);
    }

    private void carryOut() {
      int from = pc;
      int code = shown(from);
      int length = lengthOf(code);
      if (length == 0) {
        state = BROKEN;
        extra = 1;
        return;
      }
      int n = shown(from + 1);
      int h = shown(from + 2);
      pc = from + length & LAST_ADDRESS;
      extra = length;
      instructions++;
      put(times, from, at(times, from) + 1);
      ports.copying = 0;
      int group = code >> 3;
      if (group == 0) control(code, from);
      else if (group == 1) transfer(code & 7);
      else if (group == 2) stack(code & 7);
      else if (group == 3) onA(code & 7);
      else if (code >= FIRST_BRANCH) branch(code, n, from);
      else if (group >= JMP_GROUP) jump(group, target(code & 7, n, h), from);
      else moded(group, code & 7, n, h);
      if (ports.copying > 0) copy(ports.copying);
    }

    private void control(int code, int from) {
      switch (code) {
        case HLT: state = HALTED; break;
        case 2: state = WAITING; break;
        case RTS:
          pc = pullAddress();
          endCall();
          break;
        case RTI:
          flags = pull() & 31;
          pc = pullAddress();
          endCall();
          break;
        case BRK: enter(6, from); break;
        case 6: setFlag(C, false); break;
        case 7: setFlag(C, true); break;
        default: break;
      }
    }

    private void transfer(int m) {
      switch (m) {
        case 0: setFlag(I, false); break;
        case 1: setFlag(I, true); break;
        case 2: x = zn(a); break;
        case 3: a = zn(x); break;
        case 4: x = zn(s); break;
        case 5: s = x; break;
        case 6: {
          int old = a;
          a = zn(x);
          x = old;
          break;
        }
        default: multiply(); break;
      }
    }

    private void stack(int m) {
      switch (m) {
        case 0: push(a); break;
        case 1: a = zn(pull()); break;
        case 2: push(x); break;
        case 3: x = zn(pull()); break;
        case 4: push(flags); break;
        case 5: flags = pull() & 31; break;
        case 6: x = zn(x + 1 & 255); break;
        default: x = zn(x - 1 & 255); break;
      }
    }

    private void onA(int m) {
      switch (m) {
        case 4: a = zn(a / 16 + a % 16 * 16); break;
        case 5: a = zn(256 - a & 255); break;
        case 6: a = zn(255 - a); break;
        case 7: divide(); break;
        default: a = shifted(m, a); break;
      }
    }

    private void multiply() {
      int product = a * x;
      extra += 8;
      x = product / 256;
      setFlag(C, x != 0);
      a = zn(product % 256);
    }

    private void divide() {
      extra += 8;
      setFlag(V, x == 0);
      if (x == 0) return;
      int left = a % x;
      a = zn(a / x);
      x = left;
    }

    private void branch(int code, int n, int from) {
      if (code < BRA) {
        boolean set = (flags & at(BRANCH_FLAGS, code - FIRST_BRANCH >> 1)) != 0;
        if (set == ((code & 1) == 1)) return;
      }
      if (code == BSR) {
        beginCall(from);
        pushAddress(pc);
      }
      extra++;
      pc = pc + signed(n) & LAST_ADDRESS;
    }

    private void jump(int group, int address, int from) {
      if (group == JSR_GROUP) {
        beginCall(from);
        pushAddress(pc);
      }
      pc = address;
    }

    private void moded(int group, int mode, int n, int h) {
      int address = mode == NUMBER_ITSELF ? -1 : target(mode, n, h);
      if (group == 16) write(address, a);
      else if (group == 17) write(address, x);
      else if (group > 17) write(address, changed(group, read(address)));
      else operate(group, mode == NUMBER_ITSELF ? n : read(address));
    }

    private int target(int mode, int n, int h) {
      int address = n + 256 * h;
      if (mode == SHORT_ADDRESS) address = n;
      if (mode == INDEXED) address += x;
      if (mode >= BY_WORD) {
        int next = n + 1 & 255;
        touch(n);
        touch(next);
        address = shown(n) + 256 * shown(next);
      }
      if (mode == BY_WORD_INDEXED) address += x;
      return address & LAST_ADDRESS;
    }

    private void operate(int group, int value) {
      int carry = flags & C;
      switch (group) {
        case 4: a = zn(value); break;
        case 5: x = zn(value); break;
        case 6: add(value, 0); break;
        case 7: add(value, carry); break;
        case 8: add(255 - value, 1); break;
        case 9: add(255 - value, carry); break;
        case 10: compare(a, value); break;
        case 11: compare(x, value); break;
        case 12: a = zn(a & value); break;
        case 13: a = zn(a | value); break;
        case 14: a = zn(a ^ value); break;
        default:
          setFlag(Z, (a & value) == 0);
          setFlag(N, (value & 128) != 0);
          setFlag(V, (value & 64) != 0);
          break;
      }
    }

    private int changed(int group, int value) {
      if (group == 18) return zn(value + 1 & 255);
      if (group == 19) return zn(value - 1 & 255);
      return shifted(group - 20, value);
    }

    private void add(int value, int carry) {
      int sum = a + value + carry;
      int result = sum & 255;
      setFlag(C, sum > 255);
      setFlag(V, ((a ^ result) & (value ^ result) & 128) != 0);
      a = zn(result);
    }

    private void compare(int register, int value) {
      setFlag(C, register >= value);
      zn(register - value & 255);
    }

    /** 0 SHL, 1 SHR, 2 ROL, 3 ROR. */
    private int shifted(int way, int value) {
      int carry = way >= 2 ? flags & C : 0;
      boolean left = (way & 1) == 0;
      setFlag(C, (value & (left ? 128 : 1)) != 0);
      return zn(left ? value * 2 % 256 + carry : value / 2 + carry * 128);
    }

    private void setFlag(int flag, boolean set) {
      flags = set ? flags | flag : flags & ~flag;
    }

    private int zn(int value) {
      flags = flags & ~(Z | N) | (value == 0 ? Z : 0) | (value >= 128 ? N : 0);
      return value;
    }

    private void enter(int k, int caller) {
      beginCall(caller);
      push(pc / 256);
      push(pc % 256);
      push(flags);
      flags |= I;
      touch(VECTORS + 2 * k);
      touch(VECTORS + 2 * k + 1);
      pc = vector(k);
    }

    private void beginCall(int caller) {
      if (callCount >= CALLS_AT_MOST) {
        System.arraycopy(callers, 1, callers, 0, CALLS_AT_MOST - 1);
        callCount = CALLS_AT_MOST - 1;
      }
      put(callers, callCount, caller);
      callCount++;
    }

    private void endCall() {
      if (callCount > 0) callCount--;
    }

    private void touch(int address) {
      put(touched, touches, address);
      touches++;
    }

    private int read(int address) {
      touch(address);
      return isPort(address) ? ports.read(address - PORTS, cycles) : shown(address);
    }

    private void write(int address, int value) {
      touch(address + ADDRESSES);
      if (isPort(address)) ports.write(address - PORTS, value);
      else store(address, value);
    }

    /** What goes to ROM, to PORTS or to the banks 4 to 7 is lost. */
    private void store(int address, int value) {
      int place = placeOf(address, ports.bank);
      if (place < WRITABLE_PLACES) put(memory, place, value);
    }

    private void push(int value) {
      put(touched, touches, STACK + s + ADDRESSES);
      touches++;
      put(memory, STACK + s, value);
      s = s - 1 & 255;
    }

    private int pull() {
      s = s + 1 & 255;
      put(touched, touches, STACK + s);
      touches++;
      return at(memory, STACK + s);
    }

    private void pushAddress(int address) {
      push(address / 256);
      push(address % 256);
    }

    private int pullAddress() {
      int low = pull();
      return low + 256 * pull() & LAST_ADDRESS;
    }

    private void copy(int bytes) {
      for (int i = 0; i < bytes; i++) {
        store(ports.to + i & LAST_ADDRESS, shown(ports.from + i));
      }
      extra += 2 * bytes;
      ports.pending |= 8;
    }
  }

  /** What stands at PORTS. */
  private static final class Ports {
    final int[] input = new int[INPUTS_AT_MOST];
    final int[] output = new int[OUTPUTS_KEPT];
    int bank;
    int mask;
    int pending;
    int inputCount;
    int outputCount;
    int reload;
    int timer;
    int control;
    int random;
    int from;
    int to;
    /** With how many bytes the copier was told to go in this step. */
    int copying;

    void clear() {
      bank = 0;
      mask = 0;
      pending = 0;
      inputCount = 0;
      outputCount = 0;
      reload = 0;
      timer = 0;
      control = 0;
      random = 1;
      from = 0;
      to = 0;
      copying = 0;
    }

    void copyFrom(Ports other) {
      System.arraycopy(other.input, 0, input, 0, INPUTS_AT_MOST);
      System.arraycopy(other.output, 0, output, 0, OUTPUTS_KEPT);
      bank = other.bank;
      mask = other.mask;
      pending = other.pending;
      inputCount = other.inputCount;
      outputCount = other.outputCount;
      reload = other.reload;
      timer = other.timer;
      control = other.control;
      random = other.random;
      from = other.from;
      to = other.to;
      copying = 0;
    }

    void take(int value) {
      put(input, inputCount, value);
      inputCount++;
      pending |= 2;
    }

    /** The lines that are both in PENDING and in MASK. */
    int wanting() {
      return pending & mask;
    }

    int firstWanting() {
      int line = 0;
      while (line < 3 && (wanting() >> line & 1) == 0) line++;
      return line;
    }

    int outputsKept() {
      return outputCount < OUTPUTS_KEPT ? outputCount : OUTPUTS_KEPT;
    }

    int latest(int back) {
      return at(output, (outputCount - 1 - back) % OUTPUTS_KEPT);
    }

    long mixCounts(long d) {
      d = d * 31 + bank;
      d = d * 31 + mask;
      d = d * 31 + pending;
      d = d * 31 + timer;
      d = d * 31 + inputCount;
      return d * 31 + outputCount;
    }

    long mixOutputs(long d) {
      for (int i = 0; i < outputsKept(); i++) d = d * 31 + latest(i);
      return d;
    }

    int read(int port, int cyclesAhead) {
      switch (port) {
        case 0: return bank;
        case 1: return mask;
        case 2: return pending;
        case 3: return outputCount % 256;
        case 4: return firstInput();
        case 5: return inputCount;
        case 6: return timer % 256;
        case 7: return timer / 256 % 256;
        case 8: return control;
        case 9: return nextRandom();
        case 10: return from % 256;
        case 11: return from / 256;
        case 12: return to % 256;
        case 13: return to / 256;
        case 15: return cyclesAhead % 256;
        default: return 0;
      }
    }

    void write(int port, int value) {
      switch (port) {
        case 0: bank = value % 8; break;
        case 1: mask = value % 16; break;
        case 2: pending &= ~value; break;
        case 3:
          put(output, outputCount % OUTPUTS_KEPT, value);
          outputCount++;
          break;
        case 6: reload = withLow(reload, value); break;
        case 7: reload = withHigh(reload, value); break;
        case 8:
          if ((value & 1) > (control & 1)) wind();
          control = value % 4;
          break;
        case 9: random = value + 256; break;
        case 10: from = withLow(from, value); break;
        case 11: from = withHigh(from, value); break;
        case 12: to = withLow(to, value); break;
        case 13: to = withHigh(to, value); break;
        case 14: copying = value; break;
        default: break;
      }
    }

    private int firstInput() {
      if (inputCount == 0 || input.length == 0) return 0;
      int first = input[0];
      for (int i = 1; i < input.length; i++) input[i - 1] = input[i];
      inputCount--;
      return first;
    }

    private int nextRandom() {
      random = (random & 1) == 0 ? random / 2 : random / 2 ^ 46080;
      return random % 256;
    }

    private int withLow(int word, int value) {
      return word / 256 * 256 + value;
    }

    private int withHigh(int word, int value) {
      return value * 256 + word % 256;
    }

    private void wind() {
      timer = reload == 0 ? 65536 : reload;
    }

    void pass(int cycles) {
      for (int i = 0; i < cycles && (control & 1) != 0; i++) {
        timer--;
        if (timer == 0) ring();
      }
    }

    private void ring() {
      pending |= 1;
      if ((control & 2) != 0) wind();
      else control &= ~1;
    }
  }

  /**
   * HISTORY, kept as two machines of some time ago: a step follows from the machine alone, so
   * what was ahead of the latest steps comes again when the steps up to there are done again.
   */
  private static final class History {
    Machine older = new Machine();
    Machine newer = new Machine();
    /** How many steps were done ahead of each of them; -1 if there is none. */
    int olderAt = -1;
    int newerAt = -1;
    int done;
    int size;

    void forget() {
      olderAt = -1;
      newerAt = -1;
      done = 0;
      size = 0;
    }

    /** To be called ahead of each step. */
    void keepUp(Machine live) {
      if (olderAt < 0) {
        older.copyFrom(live);
        olderAt = done;
      } else if (newerAt < 0 && done - olderAt >= STEPS_KEPT) {
        newer.copyFrom(live);
        newerAt = done;
      } else if (newerAt >= 0 && done - newerAt >= STEPS_KEPT) {
        Machine free = older;
        older = newer;
        olderAt = newerAt;
        newer = free;
        newer.copyFrom(live);
        newerAt = done;
      }
      done++;
      if (size < STEPS_KEPT) size++;
    }

    int rewind(Machine live, int steps) {
      int taken = steps < size ? steps : size;
      if (taken == 0) return 0;
      done -= taken;
      size -= taken;
      if (newerAt > done) newerAt = -1;
      live.copyFrom(newerAt >= 0 ? newer : older);
      int again = done - (newerAt >= 0 ? newerAt : olderAt);
      for (int i = 0; i < again; i++) live.advance();
      return taken;
    }
  }

  /** Breaks, watches, and how the latest run stopped. */
  private static final class Stops {
    static final int BREAKS = 6;
    static final int WATCHES = 4;
    private static final int ON_READ = 1;
    private static final int ON_WRITE = 2;

    final int[] breaks = new int[BREAKS];
    final int[] skips = new int[BREAKS];
    int breakCount;
    final int[] firsts = new int[WATCHES];
    final int[] lasts = new int[WATCHES];
    final int[] ways = new int[WATCHES];
    int watchCount;
    int reason;

    void forget() {
      breakCount = 0;
      watchCount = 0;
      reason = 0;
    }

    int breakIndex(int address) {
      for (int i = 0; i < breakCount; i++) {
        if (at(breaks, i) == address) return i;
      }
      return -1;
    }

    void addBreak(int address, int itsSkips) {
      int i = breakIndex(address);
      if (i < 0) i = breakCount++;
      put(breaks, i, address);
      put(skips, i, itsSkips);
    }

    int dropBreak(int address) {
      int i = breakIndex(address);
      if (i < 0) return -1;
      int had = at(skips, i);
      breakCount--;
      put(breaks, i, at(breaks, breakCount));
      put(skips, i, at(skips, breakCount));
      return had;
    }

    /** Whether a break stops here; one with SKIPS has one less instead. */
    boolean breaksAt(int address) {
      int i = breakIndex(address);
      if (i < 0) return false;
      int left = at(skips, i);
      if (left > 0) put(skips, i, left - 1);
      return left == 0;
    }

    void addWatch(int from, int to, boolean onRead, boolean onWrite) {
      put(firsts, watchCount, from);
      put(lasts, watchCount, to);
      put(ways, watchCount, (onRead ? ON_READ : 0) + (onWrite ? ON_WRITE : 0));
      watchCount++;
    }

    /** Whether the latest step of the machine hit a watch. */
    boolean isHit(Machine machine) {
      for (int i = 0; i < machine.touches; i++) {
        int touched = at(machine.touched, i);
        int way = touched < ADDRESSES ? ON_READ : ON_WRITE;
        if (isWatched(touched & LAST_ADDRESS, way)) return true;
      }
      return false;
    }

    private boolean isWatched(int address, int way) {
      for (int i = 0; i < watchCount; i++) {
        boolean inside = at(firsts, i) <= address && address <= at(lasts, i);
        if (inside && (at(ways, i) & way) != 0) return true;
      }
      return false;
    }
  }

  /** Which bytes are code: the addresses to which one comes from PC and the VECTORs. */
  private static final class Reach {
    final int[] come = new int[ADDRESSES];
    final int[] begins = new int[ADDRESSES];
    final int[] open = new int[ADDRESSES];
    int openCount;
    int found;

    void explore(Machine machine) {
      Arrays.fill(come, 0);
      Arrays.fill(begins, 0);
      openCount = 0;
      found = 0;
      comeTo(machine.pc);
      for (int k = 0; k < VECTOR_COUNT; k++) comeTo(machine.vector(k));
      for (int i = 0; i < ADDRESSES && openCount > 0; i++) {
        openCount--;
        goFrom(machine, at(open, openCount));
      }
    }

    private void comeTo(int address) {
      if (at(come, address) != 0) return;
      put(come, address, 1);
      put(open, openCount, address);
      openCount++;
    }

    private void goFrom(Machine machine, int address) {
      int code = machine.shown(address);
      int length = lengthOf(code);
      if (length == 0) return;
      put(begins, address, 1);
      found++;
      int group = code >> 3;
      boolean ends = code == HLT || code == RTS || code == RTI || code == BRA || group == JMP_GROUP;
      if (!ends) comeTo(address + length & LAST_ADDRESS);
      boolean jumps = (group == JMP_GROUP || group == JSR_GROUP) && (code & 7) == LONG_ADDRESS;
      if (jumps || code >= FIRST_BRANCH) comeTo(machine.operand(address) & LAST_ADDRESS);
      if (code == BRK) comeTo(machine.vector(6));
    }
  }

  /** The tape, and the tokens on it. */
  private static final class Text {
    final int[] tape = new int[TAPE_SIZE];
    int length;
    final int[] kinds = new int[TAPE_SIZE + 1];
    final int[] starts = new int[TAPE_SIZE + 1];
    /** The letters of a name or a code, the value of a number, the entry of a word. */
    final long[] contents = new long[TAPE_SIZE + 1];
    int tokens;

    void append(int four) {
      for (int shift = 24; shift >= 0; shift -= 8) {
        put(tape, length, four >> shift & 255);
        length++;
      }
    }

    int start(int token) {
      return at(starts, token);
    }

    /** Which word the token is; -1 if it is none. */
    int word(int token) {
      return at(kinds, token) == WORD && token >= 0 ? (int) at(contents, token) : -1;
    }

    /** A line that ends with the tape gets a LINE_END as well. */
    void split() {
      tokens = 0;
      int i = 0;
      for (int n = 0; n < TAPE_SIZE && i < length; n++) i = readFrom(i);
      if (length == 0 || at(tape, length - 1) != LINE_END) add(LINE_END, length, 0);
    }

    private void add(int kind, int start, long content) {
      put(kinds, tokens, kind);
      put(starts, tokens, start);
      put(contents, tokens, content);
      tokens++;
    }

    /** Reads a token, or what is no part of one, and answers where the next may begin. */
    private int readFrom(int start) {
      int first = at(tape, start);
      int set = setOf(first);
      if (first == ' ') return start + 1;
      if (first == ';') return endOfLine(start);
      if ((set & SMALL_LETTERS) != 0) return readLetters(start, NAME, SMALL_LETTERS | DIGITS);
      if (set == LARGE_LETTERS) return readLetters(start, CODE, LARGE_LETTERS);
      if (set == DIGITS) return readDigits(start, start, DIGITS, 10);
      if (first == '$') return readDigits(start, start + 1, DIGITS | HEX_LETTERS, 16);
      if (first == '\'') return readSign(start);
      if (first == '"') return readText(start);
      if (first == '.') return readWord(start);
      return readOther(start, first);
    }

    private int endOfLine(int start) {
      int end = start;
      while (end < length && at(tape, end) != LINE_END) end++;
      return end;
    }

    private int rowEnd(int start, int sets) {
      int end = start;
      while (end < length && (setOf(at(tape, end)) & sets) != 0) end++;
      return end;
    }

    private static int setOf(int b) {
      if (b >= '0' && b <= '9') return DIGITS;
      if (b >= 'a' && b <= 'f') return SMALL_LETTERS | HEX_LETTERS;
      if (b >= 'g' && b <= 'z') return SMALL_LETTERS;
      return b >= 'A' && b <= 'Z' ? LARGE_LETTERS : 0;
    }

    /** Up to eight bytes as one number; more than eight never are those of a shorter row. */
    private long packed(int start, int end) {
      long letters = 0;
      for (int i = start; i < end; i++) letters = letters << 8 | at(tape, i);
      return letters;
    }

    private int readLetters(int start, int kind, int sets) {
      int end = rowEnd(start, sets);
      add(end - start > 8 ? BAD : kind, start, packed(start, end));
      return end;
    }

    private int readDigits(int start, int firstDigit, int sets, int base) {
      int end = rowEnd(firstDigit, sets);
      int digits = end - firstDigit;
      boolean fits = digits > 0 && digits <= (base == 10 ? 5 : 4);
      int number = 0;
      for (int i = firstDigit; fits && i < end; i++) number = number * base + digit(at(tape, i));
      add(fits && number <= 65535 ? NUMBER : BAD, start, number);
      return end;
    }

    private static int digit(int b) {
      return b <= '9' ? b - '0' : b - 'a' + 10;
    }

    private boolean isLetterOfText(int i) {
      return i < length && at(tape, i) >= 32 && at(tape, i) <= 126;
    }

    private int readSign(int start) {
      boolean whole = isLetterOfText(start + 1);
      add(whole ? NUMBER : BAD, start, at(tape, start + 1));
      return whole ? start + 2 : start + 1;
    }

    private int readText(int start) {
      int end = start + 1;
      while (end < length && isLetterOfText(end) && at(tape, end) != '"') end++;
      boolean closed = end < length && at(tape, end) == '"';
      int letters = end - start - 1;
      add(closed && letters <= 40 ? TEXT : BAD, start, letters);
      return closed ? end + 1 : end;
    }

    private int readWord(int start) {
      int end = rowEnd(start + 1, SMALL_LETTERS);
      int entry = entryOf(WORDS, WORD_WIDTH, packed(start + 1, end));
      add(entry < 0 ? BAD : WORD, start, entry);
      return end;
    }

    private int readOther(int start, int first) {
      boolean doubles = start + 1 < length && at(tape, start + 1) == first;
      if (doubles && (first == '<' || first == '>')) {
        add(DOUBLED + first, start, 0);
        return start + 2;
      }
      boolean known = first == LINE_END || first < 127 && SINGLE_BYTES.indexOf((char) first) >= 0;
      add(known ? first : BAD, start, 0);
      return start + 1;
    }
  }

  /** The names of the text that is read, and those of the latest one without an error. */
  private static final class Names {
    final long[] letters = new long[LINES_AT_MOST];
    final int[] defined = new int[LINES_AT_MOST];
    int count;
    final int[] keptValues = new int[LINES_AT_MOST];
    int kept;

    void begin() {
      count = 0;
    }

    int find(long wanted) {
      for (int i = 0; i < count && i < letters.length; i++) {
        if (letters[i] == wanted) return i;
      }
      return -1;
    }

    void define(long name, int value) {
      put(letters, count, name);
      put(defined, count, value);
      count++;
    }

    void keep() {
      System.arraycopy(defined, 0, keptValues, 0, LINES_AT_MOST);
      kept = count;
    }

    int nearest(int address) {
      int best = -1;
      int most = -1;
      for (int i = 0; i < kept; i++) {
        int value = at(keptValues, i);
        if (value > most && value <= address) {
          most = value;
          best = i;
        }
      }
      return best;
    }

    long mix(long d) {
      d = d * 31 + kept;
      for (int i = 0; i < kept; i++) d = d * 31 + at(keptValues, i);
      return d;
    }
  }

  /** Reads values, from a token on; the same for all three readings of the text. */
  private static final class Values {
    private static final int NO_LEVEL = -1;
    private static final int LAST_LEVEL = 2;

    final Text text;
    final Names names;
    /** The token at which it is: if the reading failed, the one that cannot be there. */
    int token;
    /** What @ is. */
    int address;
    boolean failed;
    /** The first name without a value; -1 if there is none. */
    int unknown;
    boolean byZero;

    Values(Text text, Names names) {
      this.text = text;
      this.names = names;
    }

    int kind() {
      boolean there = token >= 0 && token < text.tokens && token < text.kinds.length;
      return there ? text.kinds[token] : BAD;
    }

    boolean take(int kind) {
      if (kind() != kind) return false;
      token++;
      return true;
    }

    /** Goes over a value that may be one already within some brackets. */
    boolean goOver(int depth) {
      failed = false;
      value(0, depth);
      return !failed;
    }

    /** Works out the value from this token on. */
    int workOut(int from, int atSign) {
      token = from;
      address = atSign;
      failed = false;
      unknown = -1;
      byZero = false;
      return value(0, 0);
    }

    private int value(int level, int depth) {
      int left = level == LAST_LEVEL ? single(depth) : value(level + 1, depth);
      for (int n = 0; n < TAPE_SIZE && !failed && levelOf(kind()) == level; n++) {
        int sign = kind();
        token++;
        int right = level == LAST_LEVEL ? single(depth) : value(level + 1, depth);
        left = joined(sign, left, right);
      }
      return left;
    }

    private int single(int depth) {
      int kind = kind();
      if (kind == NAME) {
        int name = names.find(at(text.contents, token));
        if (name < 0 && unknown < 0) unknown = token;
        token++;
        return at(names.defined, name);
      }
      if (kind == NUMBER || kind == '@') {
        token++;
        return kind == '@' ? address : (int) at(text.contents, token - 1);
      }
      boolean turns = kind == '-' || kind == '~' || kind == '<' || kind == '>';
      if (depth >= NESTED_AT_MOST || !turns && kind != '(') {
        failed = true;
        return 0;
      }
      token++;
      if (turns) return turned(kind, single(depth + 1));
      int inner = value(0, depth + 1);
      if (failed || kind() != ')') failed = true;
      else token++;
      return inner;
    }

    private static int levelOf(int sign) {
      switch (sign) {
        case '&': case '|': case '^': case SHIFT_LEFT: case SHIFT_RIGHT: return 0;
        case '+': case '-': return 1;
        case '*': case '/': case '%': return 2;
        default: return NO_LEVEL;
      }
    }

    private static int turned(int sign, int value) {
      switch (sign) {
        case '-': return -value;
        case '~': return ~value;
        case '<': return value & 255;
        default: return value >> 8 & 255;
      }
    }

    private int joined(int sign, int left, int right) {
      switch (sign) {
        case '&': return left & right;
        case '|': return left | right;
        case '^': return left ^ right;
        case SHIFT_LEFT: return left << (right & 31);
        case SHIFT_RIGHT: return left >> (right & 31);
        case '+': return left + right;
        case '-': return left - right;
        case '*': return left * right;
        default: break;
      }
      if (right == 0) {
        byZero = true;
        return 0;
      }
      return sign == '/' ? left / right : left % right;
    }
  }

  /** A line of the text: its tokens, and what FIRST TIME found out for SECOND TIME. */
  private static final class Line {
    /** Numbers of tokens; -1 for those that it has not. */
    int name;
    int work;
    int value;
    boolean assigns;
    /** The mode that its place has by its form alone. */
    int place;
    boolean leftOut;
    int code;
    int address;
    int bank;

    void clear() {
      name = -1;
      work = -1;
      value = -1;
      assigns = false;
      place = NO_PLACE;
      leftOut = false;
      code = -1;
      address = 0;
      bank = 0;
    }
  }

  /** Whether the tape is a text at all (error 1), and of what lines. */
  private static final class Syntax {
    final Text text;
    final Values values;
    final Line[] lines = new Line[LINES_AT_MOST];
    final Line noLine = new Line();
    int lineCount;

    Syntax(Text text, Values values) {
      this.text = text;
      this.values = values;
      for (int i = 0; i < lines.length; i++) lines[i] = new Line();
    }

    Line line(int i) {
      boolean there = i >= 0 && i < lines.length && lines[i] != null;
      return there ? lines[i] : noLine;
    }

    /** The position of error 1; -1 without one. */
    int firstFault() {
      lineCount = 0;
      values.token = 0;
      for (int n = 0; n <= LINES_AT_MOST && values.token < text.tokens; n++) {
        if (n == LINES_AT_MOST) return text.start(values.token - 1) + 1;
        lineCount++;
        if (!readLine(line(n))) return text.start(values.token);
      }
      return -1;
    }

    private boolean readLine(Line line) {
      line.clear();
      int first = values.token;
      if (values.take(NAME)) {
        line.name = first;
        line.assigns = values.take('=');
        if (!line.assigns && !values.take(':')) return false;
      }
      int work = values.token;
      boolean whole = true;
      if (line.assigns) {
        line.value = work;
        whole = values.goOver(0);
      } else if (values.take(CODE)) {
        line.work = work;
        whole = readPlace(line);
      } else if (values.take(WORD)) {
        line.work = work;
        whole = readWord(line, text.word(work));
      }
      return whole && values.take(LINE_END);
    }

    private boolean readPlace(Line line) {
      if (values.kind() == LINE_END) return true;
      boolean number = values.take('#');
      boolean bracket = !number && values.take('(');
      line.value = values.token;
      if (!values.goOver(bracket ? 1 : 0)) return false;
      if (bracket && !values.take(')')) return false;
      line.place = number ? NUMBER_ITSELF : bracket ? BY_WORD : LONG_ADDRESS;
      if (number || !values.take(',')) return true;
      line.place++;
      return at(text.contents, values.token) == 'X' && values.take(CODE);
    }

    private boolean readWord(Line line, int word) {
      line.value = values.token;
      if (word == ELSE || word == END) return true;
      if (word == LETTERS) return values.take(TEXT);
      boolean whole = values.goOver(0);
      if (word == FILL) return whole && values.take(',') && values.goOver(0);
      int more = word == BYTES || word == DOUBLE_BYTES ? TAPE_SIZE : 0;
      for (int n = 0; n < more && whole && values.take(','); n++) whole = values.goOver(0);
      return whole;
    }
  }

  /** FIRST TIME and SECOND TIME, and what came of them. */
  private static final class Passes {
    private static final int IN = 0;
    private static final int OUT = 1;
    /** Of a .if in lines that are left out: no .else brings anything in. */
    private static final int ALL_OUT = 2;
    private static final int ELSE_SEEN = 4;
    private static final int BYTES_AT_MOST = 2048;

    final Text text;
    final Values values;
    final Names names;
    final Syntax syntax;
    final int[] image = new int[PLACES];
    /** Which line put the byte at each place; 0 if none did. */
    final int[] imageLines = new int[PLACES];
    final int[] keptLines = new int[PLACES];
    /** The bytes of a work. */
    final int[] bytes = new int[BYTES_AT_MOST];
    int byteCount;
    final int[] ifs = new int[IFS_AT_MOST];
    int ifCount;
    int address;
    int bank;
    int error;
    int errorPosition = -1;

    Passes(Text text, Values values, Names names, Syntax syntax) {
      this.text = text;
      this.values = values;
      this.names = names;
      this.syntax = syntax;
    }

    void begin() {
      error = 0;
      errorPosition = -1;
      ifCount = 0;
      address = ROM;
      bank = 0;
    }

    void refuse(int number, int position) {
      error = number;
      errorPosition = position;
    }

    void keepLines() {
      System.arraycopy(imageLines, 0, keptLines, 0, PLACES);
    }

    private boolean refuseAt(int number, int token) {
      error = number;
      errorPosition = at(text.starts, token);
      return false;
    }

    // FIRST TIME

    void firstTime() {
      for (int i = 0; i < syntax.lineCount && error == 0; i++) {
        Line line = syntax.line(i);
        int word = text.word(line.work);
        line.leftOut = leavesOut(word);
        line.address = address;
        line.bank = bank;
        if (!line.leftOut && line.name >= 0) nameLine(line);
        if (error == 0 && word >= IF) boundLine(line, word);
        else if (error == 0 && !line.leftOut && line.work >= 0) firstWork(line, word);
      }
      if (error == 0 && ifCount > 0) refuse(3, text.length);
    }

    private void boundLine(Line line, int word) {
      if (word == IF) openIf(line);
      else if (word == ELSE) turnIf(line.work);
      else closeIf(line.work);
    }

    private void firstWork(Line line, int word) {
      if (word < 0) {
        firstCode(line);
      } else if (word == ORG) {
        address = knownUpTo(line.value, LAST_ADDRESS);
      } else if (word == BANK) {
        bank = knownUpTo(line.value, BANKS - 1);
      } else if (word == LETTERS) {
        address += (int) at(text.contents, line.value);
      } else if (word == FILL) {
        int times = knownUpTo(line.value, BANK_SIZE);
        if (error == 0) countValues(values.token + 1);
        address += times;
      } else {
        address += countValues(line.value) * (word == BYTES ? 1 : 2);
      }
    }

    private boolean leavesOut(int word) {
      int top = ifCount > 0 ? at(ifs, ifCount - 1) & ~ELSE_SEEN : IN;
      return top == ALL_OUT || top == OUT && word != ELSE && word != END;
    }

    private void nameLine(Line line) {
      long letters = at(text.contents, line.name);
      int value = address;
      if (names.find(letters) >= 0) {
        refuseAt(3, line.name);
        return;
      }
      if (line.assigns) {
        value = values.workOut(line.value, address);
        if (refusesValue(line.value, true)) return;
      }
      names.define(letters, value);
    }

    /** The value that was worked out latest, which begins at the token. */
    private boolean refusesValue(int token, boolean mustBeKnown) {
      if (values.unknown >= 0) {
        if (mustBeKnown) refuseAt(4, values.unknown);
        return mustBeKnown;
      }
      if (values.byZero) refuseAt(5, token);
      return values.byZero;
    }

    /** A value that must be KNOWN, and from 0 to most. */
    private int knownUpTo(int token, int most) {
      int value = values.workOut(token, address);
      if (!refusesValue(token, true) && (value < 0 || value > most)) refuseAt(5, token);
      return value;
    }

    private void openIf(Line line) {
      if (ifCount >= IFS_AT_MOST) {
        refuseAt(3, line.work);
        return;
      }
      int top = ALL_OUT;
      if (!line.leftOut) {
        top = values.workOut(line.value, address) != 0 ? IN : OUT;
        if (refusesValue(line.value, true)) return;
      }
      put(ifs, ifCount, top);
      ifCount++;
    }

    private void turnIf(int token) {
      int top = at(ifs, ifCount - 1);
      if (ifCount == 0 || top >= ELSE_SEEN) {
        refuseAt(3, token);
        return;
      }
      int turned = top == ALL_OUT ? ALL_OUT : top == IN ? OUT : IN;
      put(ifs, ifCount - 1, turned + ELSE_SEEN);
    }

    private void closeIf(int token) {
      if (ifCount == 0) refuseAt(3, token);
      else ifCount--;
    }

    private int countValues(int first) {
      int count = 0;
      int token = first;
      for (int n = 0; n < TAPE_SIZE && error == 0 && token >= 0; n++) {
        values.workOut(token, address);
        refusesValue(token, false);
        token = values.take(',') ? values.token : -1;
        count++;
      }
      return count;
    }

    private void firstCode(Line line) {
      if (!hasForm(line)) {
        refuseAt(2, line.work);
        return;
      }
      if (line.place != NO_PLACE) {
        int value = values.workOut(line.value, address);
        if (refusesValue(line.value, false)) return;
        boolean fits = values.unknown < 0 && value >= 0 && value <= 255;
        boolean plain = line.code < FIRST_BRANCH && (line.code & 7) == LONG_ADDRESS;
        if (plain && fits && hasMode(line.code >> 3, SHORT_ADDRESS)) line.code--;
      }
      address += lengthOf(line.code);
    }

    /** Finds the CODE for the name and the form of the place; a value alone is mode 3 so far. */
    private boolean hasForm(Line line) {
      long letters = at(text.contents, line.work);
      if (line.place == NO_PLACE) {
        line.code = entryOf(PLAIN_CODES, CODE_WIDTH, letters);
        return line.code >= 0;
      }
      int branch = entryOf(BRANCH_CODES, CODE_WIDTH, letters);
      if (branch >= 0) {
        line.code = FIRST_BRANCH + branch;
        return line.place == LONG_ADDRESS;
      }
      int group = FIRST_MODED_GROUP + entryOf(MODED_CODES, CODE_WIDTH, letters);
      line.code = group * 8 + line.place;
      return group >= FIRST_MODED_GROUP && hasMode(group, line.place);
    }

    // SECOND TIME

    void secondTime() {
      Arrays.fill(image, 0);
      Arrays.fill(imageLines, 0);
      for (int i = 0; i < syntax.lineCount && error == 0; i++) {
        Line line = syntax.line(i);
        boolean puts = !line.leftOut && line.work >= 0;
        if (puts && makeBytes(line)) putBytes(line, i + 1);
      }
    }

    /** Works out the bytes of a work; false if one of its values is refused. */
    private boolean makeBytes(Line line) {
      byteCount = 0;
      switch (text.word(line.work)) {
        case -1: return makeCode(line);
        case BYTES: return makeValues(line, 1);
        case DOUBLE_BYTES: return makeValues(line, 2);
        case LETTERS: return makeText(line);
        case FILL: return makeFill(line);
        default: return true;
      }
    }

    private void addByte(int value) {
      put(bytes, byteCount, value & 255);
      byteCount++;
    }

    /** Whether the value that was worked out latest, which begins at the token, is in order. */
    private boolean accepts(int token, int value, int least, int most) {
      if (values.unknown >= 0) return refuseAt(4, values.unknown);
      if (values.byZero || value < least || value > most) return refuseAt(5, token);
      return true;
    }

    private boolean makeCode(Line line) {
      addByte(line.code);
      if (line.place == NO_PLACE) return true;
      int value = values.workOut(line.value, line.address);
      int mode = line.code & 7;
      if (line.code >= FIRST_BRANCH) return makeBranch(line, value);
      int least = mode == NUMBER_ITSELF ? -128 : 0;
      int most = mode == NUMBER_ITSELF || mode >= BY_WORD ? 255 : LAST_ADDRESS;
      if (!accepts(line.value, value, least, most)) return false;
      addByte(value);
      if (lengthOf(line.code) == 3) addByte(value >> 8);
      return true;
    }

    private boolean makeBranch(Line line, int value) {
      if (!accepts(line.value, value, 0, LAST_ADDRESS)) return false;
      int way = value - (line.address + 2);
      addByte(way);
      return way >= -128 && way <= 127 || refuseAt(5, line.value);
    }

    private boolean makeValues(Line line, int width) {
      int token = line.value;
      for (int n = 0; n < TAPE_SIZE && token >= 0; n++) {
        int value = values.workOut(token, line.address);
        boolean wide = width == 2;
        if (!accepts(token, value, wide ? -32768 : -128, wide ? 65535 : 255)) return false;
        addByte(value);
        if (wide) addByte(value >> 8);
        token = values.take(',') ? values.token : -1;
      }
      return true;
    }

    private boolean makeText(Line line) {
      int first = text.start(line.value) + 1;
      int letters = (int) at(text.contents, line.value);
      for (int i = 0; i < letters; i++) addByte(at(text.tape, first + i));
      return true;
    }

    private boolean makeFill(Line line) {
      int times = values.workOut(line.value, line.address);
      int token = values.token + 1;
      int value = values.workOut(token, line.address);
      if (!accepts(token, value, -128, 255)) return false;
      for (int i = 0; i < times && i < BYTES_AT_MOST; i++) addByte(value);
      return true;
    }

    private void putBytes(Line line, int number) {
      for (int i = 0; i < byteCount; i++) {
        int to = line.address + i;
        int place = to > LAST_ADDRESS ? -1 : placeOf(to, line.bank);
        if (place < 0 || at(imageLines, place) != 0) {
          refuseAt(6, line.work);
          return;
        }
        put(image, place, at(bytes, i));
        put(imageLines, place, number);
      }
    }
  }
}
