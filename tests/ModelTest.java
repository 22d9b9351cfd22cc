import java.lang.reflect.InvocationTargetException;
import java.lang.reflect.Method;
import java.util.Arrays;
import java.util.HashMap;
import java.util.Map;
import java.util.Random;

/** Runs of calls by chance on FerriteBoard and on the slow model: all answers must be the same. */
public final class ModelTest {
  private static final Map<String, Method> BOARD = new HashMap<>();
  private static final Map<String, Method> MODEL = new HashMap<>();
  private static final String[] PLAIN = {
      "a", "x", "s", "flags", "pc", "state", "cycles", "instructions", "bank", "mask", "pending", "count", "inputs",
      "outputs", "calls", "hottest", "stopped", "history", "names", "errorAt", "meanCycles"};

  private final Random chance;
  private final Programs programs;
  private FerriteBoard board = new FerriteBoard();
  private Model model = new Model();
  private final StringBuilder told = new StringBuilder();
  private final int seed;
  private int calls;
  /** How many calls the object has had: beyond 512 its answers are free. */
  private int made;
  static int[] errors = new int[7];
  static int[] stops = new int[7];
  static int[] states = new int[4];

  private ModelTest(int seed) {
    this.seed = seed;
    chance = new Random(seed);
    programs = new Programs(chance);
  }

  private static String answer(Method method, Object on, Object... args) {
    try {
      return String.valueOf(method.invoke(on, args));
    } catch (InvocationTargetException e) {
      return "throws." + e.getCause().getClass().getSimpleName();
    } catch (IllegalAccessException e) {
      return e.toString();
    }
  }

  private String call(String name, Object... args) {
    calls++;
    made++;
    String want = answer(MODEL.get(name), model, args);
    String got = answer(BOARD.get(name), board, args);
    if (!got.equals(want)) {
      Check.is("seed " + seed + ", call " + calls + ": " + name + Arrays.toString(args) + " behind\n" + told, got, want);
      throw new IllegalStateException("stop");
    }
    told.append(name).append(Arrays.toString(args)).append(' ').append(got).append('\n');
    return got;
  }

  private int below(int n) {
    return chance.nextInt(n);
  }

  private void type(String text) {
    for (int i = 0; i < text.length(); i += 20) {
      Object[] five = {0, 0, 0, 0, 0};
      for (int k = 0; k < 20 && i + k < text.length(); k++) {
        five[k / 4] = (Integer) five[k / 4] | (text.charAt(i + k) & 255) << 24 - k % 4 * 8;
      }
      call("feed", five);
    }
    call("trim", text.length());
    calls -= (text.length() + 19) / 20;
    told.setLength(0);
    told.append(text).append("\n----\n");
  }

  private int address() {
    switch (below(6)) {
      case 0: return below(40);
      case 1: return 3072 + below(120);
      case 2: return 1792 + below(18);
      case 3: return 2048 + below(64);
      case 4: return below(4096);
      default: return 250 + below(262);
    }
  }

  private int odd() {
    int[] odd = {-1, 4096, 256, 5000, 5001, 0, 1, 40, 201, 200, Integer.MIN_VALUE, Integer.MAX_VALUE, 1792, 2047, 1000, 1001, 32};
    return odd[below(odd.length)];
  }

  private void anyCall() {
    int span = below(3) == 0 ? below(5001) : 1 + below(60);
    switch (below(40)) {
      case 0: case 1: case 2: case 3: call("run", span); break;
      case 4: case 5: call("stepOver"); break;
      case 6: call("stepOut"); break;
      case 7: case 8: case 9: call("step"); break;
      case 10: case 11: call("back", 1 + below(below(2) == 0 ? 10 : 200)); break;
      case 12: call("key", below(258) - 1); break;
      case 13: call("signal"); break;
      case 14: call("nmi"); break;
      case 15: call("poke", address(), below(3) == 0 ? odd() : below(256)); break;
      case 16: call("setRegister", below(6), below(4) == 0 ? odd() : below(32)); break;
      case 17: call("setBreak", board.pc() + below(20), below(3)); break;
      case 18: call("clearBreak", address()); break;
      case 19: call("setWatch", address(), 4095 - below(3) * 1000, below(2) == 0, below(2) == 0); break;
      case 20: { int a = address(); call("setWatch", a, a + below(3), below(2) == 0, below(2) == 0); break; }
      case 21: call("clearWatches"); break;
      case 22: call("cyclesToHalt", span); break;
      case 23: call("cyclesToReach", board.pc() + below(12) - 2, span); break;
      case 24: call("outputsIn", span); break;
      case 25: call("writesIn", address(), span); break;
      case 26: call("isCode", board.pc() + below(20) - 5); break;
      case 27: call("codes"); break;
      case 28: call("digest"); break;
      case 29: { int a = address(); call("codeAt", a); call("lengthAt", a); call("operandAt", a); break; }
      case 30: { int a = below(3) == 0 ? odd() : address(); call("byteAt", a); call("timesAt", a); call("lineOf", a); call("nameNear", a); break; }
      case 31: call("byteIn", below(10) - 1, below(1026) - 1); break;
      case 32: call("outputAt", below(42) - 1); break;
      case 33: call("callAt", below(6) - 1); break;
      case 34: call("valueOf", below(14) - 1); break;
      case 35: { String[] one = {"run", "back", "cyclesToHalt", "outputsIn", "clearBreak", "nameNear", "isCode", "operandAt"};
        call(one[below(one.length)], odd()); break; }
      case 36: { String[] two = {"setBreak", "cyclesToReach", "writesIn", "poke", "setRegister", "byteIn"};
        call(two[below(two.length)], odd(), odd()); break; }
      case 37: if (below(6) == 0) call("reset"); break;
      case 38: if (below(6) == 0) call("feed", below(99), 1 << below(31), -1, 0, 5); break;
      default: if (below(12) == 0 && made < 390) { assembleSome(); } break;
    }
    answerSame("digest");
    answerSame(PLAIN[below(PLAIN.length)]);
  }

  private void answerSame(String plain) {
    calls--;
    call(plain);
    told.setLength(told.lastIndexOf("\n", told.length() - 2) + 1);
  }

  private void assembleSome() {
    call("trim", 0);
    String text = below(10) == 0 ? programs.rubble() : programs.program();
    if (below(3) == 0) text = programs.spoiled(text);
    if (below(6) == 0 && text.length() > 1) text = text.substring(0, text.length() - 1);
    type(text);
    errors[Integer.parseInt(call("assemble"))]++;
    if (below(3) > 0) call("run", 1 + below(300));
  }

  private void go() {
    assembleSome();
    while (made < 500) {
      anyCall();
      made += 4;
      stops[board.stopped()]++;
      states[board.state()]++;
    }
    call("digest");
    Check.is("calls are up to 512: " + made, made <= 512, true);
  }

  private void begin() {
    board = new FerriteBoard();
    model = new Model();
    made = 0;
  }

  /** Texts alone, many and mostly bad ones. */
  private void texts(int count) {
    for (int k = 0; k < count; k++) {
      if (made > 380) begin();
      String text = below(6) == 0 ? programs.rubble() : programs.program();
      text = below(4) == 0 ? programs.spoiled(text) : programs.shuffled(text);
      told.setLength(0);
      type(text);
      errors[Integer.parseInt(call("assemble"))]++;
      answerSame("errorAt");
      answerSame("names");
    }
    call("digest");
  }

  public static void main(String[] args) {
    for (Method m : FerriteBoard.class.getMethods()) BOARD.put(m.getName(), m);
    for (Method m : Model.class.getDeclaredMethods()) {
      m.setAccessible(true);
      MODEL.put(m.getName(), m);
    }
    int first = args.length > 0 ? Integer.parseInt(args[0]) : 0;
    int runs = args.length > 1 ? Integer.parseInt(args[1]) : 120;
    for (int seed = first; seed < first + runs; seed++) {
      try {
        new ModelTest(seed).go();
        new ModelTest(seed + 1000000).texts(40);
      } catch (IllegalStateException stop) {
        break;
      }
    }
    System.out.println("errors " + Arrays.toString(errors) + " stops " + Arrays.toString(stops) + " states " + Arrays.toString(states));
    Check.finish();
  }
}
