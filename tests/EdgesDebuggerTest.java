/** Section 7 and promises 16 to 26, 44 and 45, sentence by sentence. */
public final class EdgesDebuggerTest {
  private static String where(FerriteBoard board) {
    return Bench.all(board.stopped(), board.pc(), board.cycles());
  }

  // HISTORY

  /** "each step, but those of 4 (a), comes to its end; if it has 201 then, the first one leaves it" */
  private static void historyIsFull() {
    FerriteBoard board = Bench.at(2100, Bench.NOP);
    for (int steps : new int[] {1, 2, 198, 199, 200, 201, 202, 399, 400, 401, 402, 600, 601, 602, 1000, 1001}) {
      board.run(steps - board.instructions());
      Check.is("behind " + steps, Bench.all(board.instructions(), board.history()), Bench.all(steps, Math.min(steps, 200)));
    }
    Check.is("200 come back", Bench.all(board.back(200), board.instructions(), board.pc(), board.history()), Bench.all(200, 801, 2901, 0));
    Check.is("and no more", Bench.all(board.back(1), board.instructions()), "0 801");
    FerriteBoard every = Bench.at(2100, Bench.WAI);
    every.step();
    every.step();
    every.nmi();
    Check.is("nmi() empties it", every.history(), 0);
    every.step();
    every.poke(0, Bench.NONE);
    every.setRegister(4, 0);
    Check.is("a step that breaks it counts", Bench.all(every.step(), every.history()), "1 1");
    Check.is("none of 4 (a)", Bench.all(every.step(), every.run(9), every.stepOver(), every.stepOut(), every.history()), "0 0 0 0 1");
    FerriteBoard wait = Bench.at(2100, Bench.WAI);
    wait.run(5);
    Check.is("waiting counts", wait.history(), 5);
  }

  /** "back() takes from its end", so many, or all of it, at all depths. */
  private static void historyComesBack() {
    for (int steps : new int[] {1, 3, 199, 200, 201, 250, 399, 400, 401, 450, 600, 601, 777}) {
      for (int back : new int[] {1, 2, 199, 200}) {
        FerriteBoard board = Bench.at(2100, Bench.NOP);
        board.run(steps);
        int taken = Math.min(back, Math.min(steps, 200));
        String due = Bench.all(taken, steps - taken, 2100 + steps - taken, Math.min(steps, 200) - taken);
        Check.is("back " + back + " of " + steps, Bench.all(board.back(back), board.cycles(), board.pc(), board.history()), due);
        board.run(70);
        Check.is("on from there", Bench.all(board.cycles(), board.history()), Bench.all(steps - taken + 70, Math.min(200, Math.min(steps, 200) - taken + 70)));
        int again = board.history();
        Check.is("all of it", Bench.all(board.back(200), board.cycles(), board.history()), Bench.all(again, steps - taken + 70 - again, 0));
      }
    }
  }

  /** What was ahead of an empty HISTORY is not looked at again. */
  private static void historyBeginsAnew() {
    for (int first : new int[] {1, 200, 201, 300, 399, 400, 450}) {
      for (int then : new int[] {1, 199, 200, 201, 250, 399, 400, 401, 450, 600, 650}) {
        FerriteBoard board = Bench.at(2100, Bench.NOP);
        board.run(first);
        board.signal();
        board.setRegister(4, 2100);
        board.run(then);
        int taken = Math.min(then, 50);
        String due = Bench.all(taken, first + then - taken, 2100 + then - taken, 4, Math.min(then, 200) - taken);
        Check.is("50 of " + then + " behind " + first, Bench.all(board.back(50), board.cycles(), board.pc(), board.pending(), board.history()), due);
      }
    }
  }

  /** "all is as it was ahead of them": CALLS that were there ahead of HISTORY, and all of PORTS. */
  private static void backBringsAll() {
    FerriteBoard calls = Bench.at(2100, Bench.BSR, 8, Bench.BSR, 8);
    Bench.put(calls, 2110, Bench.BSR, 8);
    Bench.put(calls, 2112, Bench.BSR, 8);
    Bench.put(calls, 2120, Bench.RTS);
    Bench.put(calls, 2122, Bench.RTI);
    Bench.steps(calls, 2);
    calls.setRegister(4, 2120);
    Check.is("two calls", Bench.all(calls.history(), calls.calls(), calls.callAt(0), calls.callAt(1)), "0 2 2110 2100");
    calls.step();
    Check.is("RTS", Bench.all(calls.pc(), calls.calls()), "2112 1");
    calls.step();
    Check.is("other ones", Bench.all(calls.pc(), calls.calls(), calls.callAt(0), calls.callAt(1)), "2122 2 2112 2100");
    Check.is("CALLS are as they were", Bench.all(calls.back(2), calls.calls(), calls.callAt(0), calls.callAt(1), calls.s()), "2 2 2110 2100 251");
    for (int port = 0; port < 15; port++) {
      FerriteBoard board = busyPorts();
      FerriteBoard twin = busyPorts();
      for (FerriteBoard each : new FerriteBoard[] {board, twin}) {
        Bench.put(each, 2100, Bench.LDA + 1, 91, Bench.STA + 3, port, 7, Bench.LDA + 3, 4, 7, Bench.PHA, Bench.BRK);
        each.setRegister(4, 2100);
      }
      board.nmi();
      Bench.vector(board, 1, 2100);
      twin.nmi();
      Bench.vector(twin, 1, 2100);
      Bench.steps(board, 6);
      Check.is("six steps", board.back(6), 6);
      Check.is("all is as it was", Check.everything(board), Check.everything(twin));
      Check.is("the NMI too", Bench.all(board.nmi(), twin.nmi()), "true true");
      board.setRegister(4, 2090);
      twin.setRegister(4, 2090);
      board.step();
      twin.step();
      for (int i = 0; i < 16; i++) Check.is("port " + i + " behind a write into " + port, Bench.read(board, 1792 + i), Bench.read(twin, 1792 + i));
      for (FerriteBoard each : new FerriteBoard[] {board, twin}) {
        Bench.write(each, 1800, 0);
        Bench.write(each, 1800, 1);
      }
      Check.is("RELOAD", board.count(), twin.count());
      Check.is("all of it", Check.everything(board), Check.everything(twin));
    }
  }

  /** Each port has something of its own. */
  private static FerriteBoard busyPorts() {
    FerriteBoard board = new FerriteBoard();
    int[] ports = {0, 1, 6, 7, 9, 10, 11, 12, 13, 3, 3, 8};
    for (int i = 0; i < ports.length; i++) Bench.write(board, 1792 + ports[i], ports[i] == 8 ? 3 : 33 + 2 * i);
    board.key(71);
    board.key(72);
    board.key(73);
    return board;
  }

  /** "It is empty at first, and behind each feed(), trim(), ... that throws no exception." */
  private static void historyIsEmptyBehind() {
    Check.is("at first", new FerriteBoard().history(), 0);
    for (int call = 0; call < 10; call++) {
      FerriteBoard board = Bench.at(2100, Bench.NOP);
      Bench.steps(board, 3);
      Check.is("three", board.history(), 3);
      switch (call) {
        case 0: board.feed(0, 0, 0, 0, 0); break;
        case 1: board.trim(0); break;
        case 2: board.assemble(); break;
        case 3: board.reset(); break;
        case 4: board.key(0); break;
        case 5: board.signal(); break;
        case 6: board.nmi(); break;
        case 7: board.poke(5, 0); break;
        case 8: board.setRegister(4, board.pc()); break;
        default: board.feed(0x21212121, 0, 0, 0, 0); board.step(); board.assemble(); break;
      }
      Check.is("behind the call " + call, Bench.all(board.history(), board.back(200), board.history()), "0 0 0");
    }
    FerriteBoard board = Bench.at(2100, Bench.NOP);
    Bench.steps(board, 3);
    board.setBreak(5, 5);
    board.clearBreak(5);
    board.setWatch(5, 5, true, true);
    board.clearWatches();
    board.cyclesToHalt(9);
    board.cyclesToReach(9, 9);
    board.outputsIn(9);
    board.writesIn(9, 9);
    board.codes();
    board.digest();
    board.stopped();
    Check.is("not behind the others", board.history(), 3);
  }

  /** "all is as it was ahead of them, but breaks (their SKIPS as well) and watches, and stopped() is 0" */
  private static void backLeavesBreaksAndWatches() {
    FerriteBoard board = Check.ready("a: INX\nSTX 1795\nSTX 9,X\nBRA a");
    board.setBreak(3072, 5);
    board.setWatch(4000, 4000, true, true);
    board.run(100);
    int history = board.history();
    Check.is("behind run", Bench.all(board.stopped(), board.outputs() > 3), "2 true");
    Check.is("back", Bench.all(board.back(200), board.stopped(), board.outputs(), board.x(), board.cycles(), board.timesAt(3072), board.hottest()),
        Bench.all(history, 0, 0, 0, 0, 0, -1));
    Check.is("their SKIPS as well", Bench.all(board.clearBreak(3072), board.clearWatches()), "0 1");
    FerriteBoard none = Bench.at(2100, Bench.HLT);
    none.run(5);
    none.signal();
    Check.is("stopped() is 0 behind nothing, too", Bench.all(none.stopped(), none.back(1), none.stopped(), none.state()), "4 0 0 2");
    FerriteBoard ends = Bench.at(2100, Bench.NOP, Bench.HLT);
    ends.run(50);
    Check.is("HALTED is taken back", Bench.all(ends.state(), ends.back(1), ends.state(), ends.pc(), ends.step(), ends.state()), "2 1 0 2101 1 2");
    FerriteBoard text = Bench.at(2100, Bench.NOP);
    text.feed(0x623d2020, 0x20202020, 0x20202020, 0x20202020, 0x20202020);
    text.step();
    text.back(1);
    text.feed(0x310a2020, 0x20202020, 0x20202020, 0x20202020, 0x20202020);
    Check.is("the tape stays", Bench.all(text.assemble(), text.valueOf(0)), "0 1");
  }

  // run, stopped

  /** "as many cycles were taken as it was told, or more (1)" */
  private static void runByCycles() {
    for (int cycles : new int[] {1, 2, 3, 4, 5, 4999, 5000}) {
      FerriteBoard nops = Bench.at(2100, Bench.WAI);
      Check.is("as many", Bench.all(nops.run(cycles), where(nops)), Bench.all(cycles, 1, 2101, cycles));
      FerriteBoard loads = Check.ready("a: LDA 300\nBRA a");
      int due = 0;
      for (int i = 0; due < cycles; i++) due += i % 2 == 0 ? 4 : 3;
      Check.is("or more", Bench.all(loads.run(cycles), loads.stopped(), loads.cycles()), Bench.all(due, 1, due));
    }
  }

  /** "of several the one that is named first": HALTED or BROKEN, a watch, cycles, a break. */
  private static void runByTheFirstNamed() {
    for (int mask = 0; mask < 16; mask++) {
      boolean ends = (mask & 1) != 0;
      boolean watch = (mask & 2) != 0;
      boolean cycles = (mask & 4) != 0;
      boolean stops = (mask & 8) != 0;
      // PLA hits the watch; HLT hits none
      FerriteBoard board = Bench.at(2100, ends ? Bench.HLT : Bench.PLA, Bench.NOP, Bench.HLT);
      if (watch) board.setWatch(0, 4095, true, true);
      if (stops) board.setBreak(2101, 0);
      board.run(cycles ? 1 : 50);
      int due = ends ? 4 : watch ? 3 : cycles ? 1 : stops ? 2 : 4;
      Check.is("of several " + mask, board.stopped(), due);
    }
    FerriteBoard broken = Bench.at(2100, Bench.NONE);
    broken.setBreak(2100, 0);
    broken.setWatch(0, 4095, true, true);
    Check.is("BROKEN is ahead of cycles and breaks", Bench.all(broken.run(1), where(broken)), "1 5 2100 1");
    Check.is("nothing is done if it is BROKEN", Bench.all(broken.run(1), where(broken)), "0 5 2100 1");
    FerriteBoard halted = Bench.at(2100, Bench.HLT);
    halted.step();
    Check.is("a step leaves stopped()", halted.stopped(), 0);
    Check.is("nothing is done if it is HALTED", Bench.all(halted.run(5000), where(halted), halted.history()), "0 4 2101 1 1");
    halted.setRegister(4, 2100);
    Check.is("still", Bench.all(halted.run(5000), where(halted)), "0 4 2100 1");
  }

  /** "it is RUNNING, no vector would be taken next, and there is a break at PC (2)" */
  private static void breaks() {
    FerriteBoard board = Check.ready("a: NOP\nINX\nBRA a");
    board.setBreak(3072, 0);
    Check.is("only if it comes there again", Bench.all(board.run(100), where(board)), "5 2 3072 5");
    Check.is("and again", Bench.all(board.run(100), where(board)), "5 2 3072 10");
    for (int skips : new int[] {0, 1, 2, 3, 999, 1000}) {
      FerriteBoard skip = Check.ready("a: NOP\nNOP\nBRA a");
      skip.setBreak(3073, skips);
      int taken = skip.run(5000);
      if (skip.stopped() == 1) taken += skip.run(5000);
      Check.is("SKIPS of " + skips, Bench.all(taken, where(skip), skip.clearBreak(3073)), Bench.all(1 + 5 * skips, 2, 3073, 1 + 5 * skips, 0));
      FerriteBoard last = Check.ready("a: NOP\nNOP\nBRA a");
      last.setBreak(3073, skips);
      Check.is("with the last cycle it is not looked at", Bench.all(last.run(1), where(last), last.clearBreak(3073)), Bench.all(1, 1, 3073, 1, skips));
    }
    FerriteBoard skips = Check.ready("a: NOP\nNOP\nBRA a");
    skips.setBreak(3073, 3);
    Check.is("the fourth time", Bench.all(skips.run(5000), where(skips)), "16 2 3073 16");
    Check.is("its SKIPS are gone", Bench.all(skips.run(5000), where(skips), skips.clearBreak(3073)), "5 2 3073 21 0");
    FerriteBoard other = Check.ready("a: NOP\nNOP\nBRA a");
    other.setBreak(3073, 3);
    other.run(9);
    Check.is("these SKIPS from now on", Bench.all(other.setBreak(3073, 1), other.run(5000), where(other)), "1 6 2 3073 16");
  }

  private static void breaksAndVectors() {
    for (int flags : new int[] {0, 4}) {
      FerriteBoard board = Bench.at(2100, Bench.NOP, Bench.NOP, Bench.HLT);
      Bench.vector(board, 4, 2102);
      Bench.write(board, 1793, 4);
      board.setRegister(4, 2100);
      board.setRegister(3, 4);
      board.signal();
      board.poke(2100, flags == 0 ? 8 : 9);
      board.setBreak(2101, 2);
      board.run(50);
      Check.is("a line would be taken next with " + flags, Bench.all(board.stopped(), board.clearBreak(2101)), flags == 0 ? "4 2" : "4 1");
    }
    FerriteBoard wait = Bench.at(2100, Bench.WAI, Bench.NOP);
    wait.setBreak(2101, 0);
    Check.is("WAITING is not RUNNING", Bench.all(wait.run(20), where(wait)), "20 1 2101 20");
    FerriteBoard nmi = Bench.at(2100, Bench.NOP);
    Bench.vector(nmi, 1, 2200);
    nmi.nmi();
    nmi.setBreak(2200, 0);
    Check.is("behind a vector", Bench.all(nmi.run(20), where(nmi)), "5 2 2200 5");
  }

  /** "it is RUNNING, no vector would be taken next": for breaks, stepOver() and cyclesToReach(), with all PENDING and MASK. */
  private static void noVectorWouldBeTaken() {
    for (int pending = 0; pending < 16; pending++) {
      for (int mask = 0; mask < 16; mask++) {
        for (int flags : new int[] {0, 4}) {
          boolean taken = flags == 0 && (pending & mask) != 0;
          FerriteBoard reach = wanting(pending, mask, flags);
          Check.is("reached " + pending + " " + mask + " " + flags, reach.cyclesToReach(2100, 1), taken ? -1 : 0);
          reach.stepOver();
          Check.is("over " + pending + " " + mask + " " + flags, Bench.all(reach.stopped(), reach.pc()), taken ? "6 2300" : "6 2102");
          FerriteBoard stop = wanting(pending, mask, 4);
          stop.poke(2099, flags == 0 ? 8 : 9);
          stop.setRegister(4, 2099);
          stop.setBreak(2100, 0);
          stop.run(6);
          Check.is("a break " + pending + " " + mask + " " + flags, Bench.all(stop.stopped(), stop.pc()), taken ? "1 2300" : "2 2100");
        }
      }
    }
  }

  /** A BSR at 2100 over which one comes to 2102; all vectors go to 2300. */
  private static FerriteBoard wanting(int pending, int mask, int flags) {
    FerriteBoard board = new FerriteBoard();
    for (int k = 0; k < 8; k++) Bench.vector(board, k, 2300);
    Bench.put(board, 2100, Bench.BSR, 98);
    Bench.put(board, 2200, Bench.RTS);
    if ((pending & 1) != 0) {
      Bench.write(board, 1798, 1);
      Bench.write(board, 1800, 1);
    }
    if ((pending & 2) != 0) board.key(7);
    if ((pending & 4) != 0) board.signal();
    if ((pending & 8) != 0) Bench.write(board, 1806, 1);
    Bench.write(board, 1793, mask);
    board.setRegister(3, flags);
    board.setRegister(4, 2100);
    Check.is("PENDING and MASK", Bench.all(board.pending(), board.mask()), Bench.all(pending, mask));
    return board;
  }

  /** "if there are 6, and none of them at the address", SKIPS of 0 to 1000, addresses of 0 to 4095 */
  private static void sixBreaks() {
    FerriteBoard board = new FerriteBoard();
    int[] addresses = {0, 4095, 1, 2047, 2048, 4094};
    int[] skips = {0, 1000, 1, 999, 500, 2};
    for (int i = 0; i < 6; i++) Check.is("break " + i, board.setBreak(addresses[i], skips[i]), i + 1);
    Check.refused("the 7th", "IllegalStateException", () -> board.setBreak(5, 0));
    for (int i = 0; i < 6; i++) Check.is("there is one", board.setBreak(addresses[i], 1000 - skips[i]), 6);
    for (int address : new int[] {5, -1, 4096, 8191, Integer.MIN_VALUE, Integer.MAX_VALUE}) Check.is("no break at " + address, board.clearBreak(address), -1);
    for (int i = 0; i < 6; i++) Check.is("SKIPS that it had", board.clearBreak(addresses[i]), 1000 - skips[i]);
    for (int i = 0; i < 6; i++) Check.is("gone", board.clearBreak(addresses[i]), -1);
    Check.is("room again", board.setBreak(7, 7), 1);
    for (int gone = 0; gone < 6; gone++) {
      FerriteBoard some = new FerriteBoard();
      for (int i = 0; i < 6; i++) some.setBreak(i, 10 * i);
      Check.is("one goes", Bench.all(some.clearBreak(gone), some.setBreak(9, 99)), Bench.all(10 * gone, 6));
      for (int i = 0; i < 6; i++) Check.is("the others stay", some.clearBreak(i), i == gone ? -1 : 10 * i);
      Check.is("the new one", some.clearBreak(9), 99);
    }
  }

  // watches

  /** The step, of those that the machine does, that hits a watch; 0 if none does. */
  private static int hit(int from, int to, boolean onRead, boolean onWrite, int... bytes) {
    FerriteBoard board = Bench.at(2100, bytes);
    Bench.registers(board, 3, 2, 255, 4);
    board.poke(20, 44);
    board.poke(21, 1);
    board.setWatch(from, to, onRead, onWrite);
    board.run(60);
    return board.stopped() == 3 ? board.history() : 0;
  }

  /** "reads or writes (also in vain) a byte, as it watches, at one of its addresses" */
  private static void watchEnds() {
    int[] read = {Bench.LDA + 3, 44, 1, Bench.HLT};
    int[] write = {Bench.STA + 3, 44, 1, Bench.HLT};
    int[] both = {Bench.INC + 3, 44, 1, Bench.HLT};
    for (int from : new int[] {0, 298, 299, 300, 301, 302}) {
      for (int to : new int[] {298, 299, 300, 301, 302, 4095}) {
        if (to < from) continue;
        int inside = from <= 300 && to >= 300 ? 1 : 0;
        Check.is("read " + from + " " + to, hit(from, to, true, false, read), inside);
        Check.is("written " + from + " " + to, hit(from, to, false, true, write), inside);
        Check.is("both of INC", hit(from, to, true, false, both) + hit(from, to, false, true, both), 2 * inside);
        Check.is("not as it watches", hit(from, to, false, true, read) + hit(from, to, true, false, write), 0);
        Check.is("it watches neither", hit(from, to, false, false, both), 0);
      }
    }
    for (int address : new int[] {0, 1791, 1792, 1808, 2047, 2048, 3071, 3072, 4095}) {
      int[] reads = {Bench.LDA + 3, address % 256, address / 256, Bench.HLT};
      int[] writes = {Bench.STA + 3, address % 256, address / 256, Bench.HLT};
      Check.is("also in vain " + address, hit(address, address, false, true, writes), 1);
      Check.is("also of PORTS " + address, hit(address, address, true, false, reads), 1);
    }
  }

  /** What of an instruction is read and written elsewhere: of each kind, byte by byte. */
  private static void whatCounts() {
    touches("LDA mode 2", new int[] {34, 20}, "r20");
    touches("LDA mode 3", new int[] {35, 44, 1}, "r300");
    touches("LDA mode 4", new int[] {36, 44, 1}, "r302");
    touches("LDA mode 5", new int[] {37, 20}, "r20 r21 r300");
    touches("LDA mode 6", new int[] {38, 20}, "r20 r21 r302");
    touches("STA mode 5", new int[] {133, 20}, "r20 r21 w300");
    touches("STX mode 6", new int[] {142, 20}, "r20 r21 w302");
    touches("INC mode 4", new int[] {148, 44, 1}, "r302 w302");
    touches("LDA #", new int[] {33, 20}, "");
    touches("JMP mode 3", new int[] {195, 44, 1}, "");
    touches("JMP mode 5", new int[] {197, 20}, "r20 r21");
    touches("JSR mode 3", new int[] {203, 44, 1}, "w511 w510");
    touches("JSR mode 5", new int[] {205, 20}, "r20 r21 w511 w510");
    touches("BSR", new int[] {217, 20}, "w511 w510");
    touches("BRA", new int[] {216, 20}, "");
    touches("PHA", new int[] {16}, "w511");
    touches("PHP", new int[] {20}, "w511");
    touches("PLA", new int[] {17}, "r256");
    touches("PLP", new int[] {21}, "r256");
    touches("RTS", new int[] {3}, "r256 r257");
    touches("RTI", new int[] {4}, "r256 r257 r258");
    touches("BRK", new int[] {5}, "w511 w510 w509 r4092 r4093");
    touches("MUL", new int[] {15}, "");
    touches("STA of the copier", new int[] {131, 14, 7}, "w1806");
  }

  /** The addresses that are read (r) and written (w) are those that are due, and no others. */
  private static void touches(String what, int[] bytes, String due) {
    int[] addresses = {0, 1, 2, 3, 19, 20, 21, 22, 44, 256, 257, 258, 259, 299, 300, 301, 302, 303, 508, 509, 510, 511, 1806, 2100, 2101, 2102, 4082, 4083, 4090, 4091, 4092,
        4093, 4094, 4095};
    for (int address : addresses) {
      for (int way = 0; way < 2; way++) {
        FerriteBoard board = Bench.at(2100, bytes);
        Bench.registers(board, 3, 2, 255, 4);
        board.poke(20, 44);
        board.poke(21, 1);
        boolean is = (" " + due + " ").contains((way == 0 ? " r" : " w") + address + " ");
        if (way == 1) Check.is(what + ": writesIn at " + address, board.writesIn(address, 1), is ? 1 : 0);
        board.setWatch(address, address, way == 0, way == 1);
        board.run(1);
        Check.is(what + (way == 0 ? ": read at " : ": written at ") + address, board.stopped() == 3, is);
      }
    }
  }

  /** "or what is taken by a vector, reads or writes ..., that of its VECTOR as well" */
  private static void whatOfVectorsCounts() {
    for (int k = 1; k < 6; k++) {
      for (int address : new int[] {507, 508, 509, 510, 511, 512, 2100}) {
        boolean pushed = address >= 509 && address <= 511;
        Check.is("pushed at " + address, Bench.all(hitsByVector(k, address, false, true), hitsByVector(k, address, true, false)), Bench.all(pushed, false));
      }
      for (int address = 4080; address < 4096; address++) {
        boolean read = (address - 4080) / 2 == k;
        Check.is("VECTOR " + k + " at " + address, Bench.all(hitsByVector(k, address, true, false), hitsByVector(k, address, false, true)), Bench.all(read, false));
      }
    }
  }

  private static boolean hitsByVector(int k, int address, boolean onRead, boolean onWrite) {
    FerriteBoard board = Bench.at(2100, Bench.NOP);
    if (k == 1) board.nmi();
    if (k == 2) {
      Bench.write(board, 1798, 1);
      Bench.write(board, 1800, 1);
    }
    if (k == 3) board.key(0);
    if (k == 4) board.signal();
    if (k == 5) Bench.write(board, 1806, 1);
    if (k > 1) {
      Bench.write(board, 1793, 15);
      board.setRegister(3, 0);
    }
    board.setWatch(address, address, onRead, onWrite);
    board.run(1);
    return board.stopped() == 3;
  }

  /** "if there are 4" */
  private static void fourWatches() {
    FerriteBoard board = Bench.at(2100, Bench.LDA + 2, 5, Bench.LDA + 2, 6, Bench.LDA + 2, 7, Bench.LDA + 2, 8, Bench.HLT);
    int[] froms = {5, 6, 7, 8};
    for (int i = 0; i < 4; i++) Check.is("watch " + i, board.setWatch(froms[i], froms[i], true, false), i + 1);
    Check.refused("the 5th", "IllegalStateException", () -> board.setWatch(1, 1, true, true));
    for (int i = 0; i < 4; i++) Check.is("each of them", Bench.all(board.run(50), board.stopped(), board.pc()), Bench.all(3, 3, 2102 + 2 * i));
    Check.is("clearWatches", Bench.all(board.clearWatches(), board.clearWatches()), "4 0");
    Check.is("room again", Bench.all(board.setWatch(0, 4095, true, true), board.setWatch(0, 0, false, false), board.setWatch(4095, 4095, false, false)), "1 2 3");
    FerriteBoard same = Bench.at(2100, Bench.LDA + 2, 5, Bench.HLT);
    Check.is("the same one twice", Bench.all(same.setWatch(5, 5, true, true), same.setWatch(5, 5, true, true), same.clearWatches()), "1 2 2");
    Check.is("none is left", Bench.all(same.run(50), same.stopped()), "4 4");
  }

  // CALLS

  /** "if there are 40, the lowest one goes. RTS and RTI take the top one away, if there is one." */
  private static void fortyCalls() {
    FerriteBoard board = new FerriteBoard();
    for (int i = 0; i < 60; i++) Bench.put(board, 2100 + 2 * i, Bench.BSR, 0);
    board.setRegister(4, 2100);
    for (int i = 1; i <= 45; i++) {
      board.step();
      int calls = Math.min(i, 40);
      String due = Bench.all(calls, 2100 + 2 * (i - 1), 2100 + 2 * (i - calls));
      Check.is("call " + i, Bench.all(board.calls(), board.callAt(0), board.callAt(calls - 1)), due);
    }
    Check.is("over one with 40", Bench.all(board.stepOver(), board.stopped(), board.calls()), "5 6 40");
    board.poke(board.pc(), Bench.RTS);
    board.step();
    Check.is("RTS of 40", Bench.all(board.calls(), board.callAt(0)), Bench.all(39, 2100 + 2 * 44));
    FerriteBoard none = Bench.at(2100, Bench.RTS);
    none.step();
    none.poke(none.pc(), Bench.RTI);
    none.step();
    Check.is("none to take away", none.calls(), 0);
    FerriteBoard kinds = Bench.at(2100, Bench.JSR + 3, 152, 8);
    Bench.put(kinds, 2200, Bench.BSR, 98);
    Bench.put(kinds, 2300, Bench.BRK);
    Bench.vector(kinds, 6, 2400);
    Bench.vector(kinds, 1, 2500);
    Bench.steps(kinds, 3);
    kinds.nmi();
    kinds.step();
    Check.is("each kind", Bench.all(kinds.calls(), kinds.callAt(0), kinds.callAt(1), kinds.callAt(2), kinds.callAt(3)), "4 2400 2300 2200 2100");
    kinds.poke(2500, Bench.RTI);
    kinds.poke(2400, Bench.RTS);
    Bench.steps(kinds, 2);
    Check.is("taken away", Bench.all(kinds.calls(), kinds.callAt(0)), "2 2200");
    kinds.reset();
    Check.is("reset() leaves none", kinds.calls(), 0);
  }

  // stepOver, stepOut

  /** "If it is RUNNING, no vector would be taken next, and the instruction at PC is JSR or BSR ... Otherwise: a step (6, but 4 or 5 ...)" */
  private static void over() {
    for (int code : new int[] {Bench.JSR + 3, Bench.JSR + 4, Bench.JSR + 5, Bench.BSR}) {
      FerriteBoard board = called(code);
      board.stepOver();
      Check.is("over " + code, Bench.all(board.stopped(), board.pc(), board.calls(), board.x()), Bench.all(6, 2100 + board.lengthAt(2100), 0, 2));
      FerriteBoard vector = called(code);
      Bench.vector(vector, 1, 2300);
      vector.nmi();
      Check.is("a vector is a step", Bench.all(vector.stepOver(), vector.stopped(), vector.pc(), vector.calls()), "5 6 2300 1");
      FerriteBoard line = called(code);
      Bench.vector(line, 4, 2300);
      Bench.write(line, 1793, 4);
      line.signal();
      line.setRegister(3, 0);
      Check.is("a line is a step", Bench.all(line.stepOver(), line.stopped(), line.pc(), line.calls()), "5 6 2300 1");
      FerriteBoard masked = called(code);
      Bench.vector(masked, 4, 2300);
      Bench.write(masked, 1793, 4);
      masked.signal();
      masked.setRegister(3, 4);
      masked.stepOver();
      Check.is("but not with I", Bench.all(masked.stopped(), masked.pc()), Bench.all(6, 2100 + masked.lengthAt(2100)));
      FerriteBoard waits = called(code);
      waits.poke(2099, Bench.WAI);
      waits.setRegister(4, 2099);
      waits.step();
      Check.is("WAITING is a step", Bench.all(waits.stepOver(), waits.stopped(), waits.pc(), waits.state()), "1 6 2100 1");
    }
    for (int code = 0; code < 256; code++) {
      if (code >= Bench.JSR + 3 && code <= Bench.JSR + 5 || code == Bench.BSR) continue;
      FerriteBoard board = Bench.at(2100, code, 0, 0);
      FerriteBoard twin = Bench.at(2100, code, 0, 0);
      board.setBreak(2101, 0);
      board.setWatch(0, 4095, true, true);
      int due = twin.step();
      Check.is("a step by " + code, Bench.all(board.stepOver(), board.pc(), board.history()), Bench.all(due, twin.pc(), 1));
      Check.is("stopped by " + code, board.stopped(), code == Bench.HLT ? 4 : board.state() == 3 ? 5 : 6);
    }
  }

  /** The call goes to 2200, where X becomes 2, and back. */
  private static FerriteBoard called(int code) {
    FerriteBoard board = code == Bench.BSR ? Bench.at(2100, code, 98) : code == Bench.JSR + 5 ? Bench.at(2100, code, 30) : Bench.at(2100, code, 152, 8);
    Bench.word(board, 30, 2200);
    Bench.put(board, 2200, Bench.INX, Bench.BSR, 1, Bench.RTS, Bench.INX, Bench.RTS);
    return board;
  }

  /** "ahead of all others but HALTED and BROKEN, if there are as many CALLS as ahead of it, or fewer (6)" */
  private static void overAndTheOthers() {
    FerriteBoard watch = Bench.at(2100, Bench.BSR, 98);
    Bench.put(watch, 2200, Bench.RTS);
    watch.setWatch(510, 511, true, false);
    watch.setBreak(2102, 0);
    Check.is("ahead of a watch", Bench.all(watch.stepOver(), where(watch), watch.clearBreak(2102)), "8 6 2102 8 0");
    FerriteBoard written = Bench.at(2100, Bench.BSR, 98);
    Bench.put(written, 2200, Bench.RTS);
    written.setWatch(510, 511, false, true);
    Check.is("a watch in it", Bench.all(written.stepOver(), where(written)), "5 3 2200 5");
    FerriteBoard stops = Bench.at(2100, Bench.BSR, 98);
    Bench.put(stops, 2200, Bench.NOP, Bench.RTS);
    stops.setBreak(2201, 1);
    stops.setBreak(2102, 3);
    Check.is("SKIPS in it", Bench.all(stops.stepOver(), where(stops), stops.clearBreak(2201), stops.clearBreak(2102)), "9 6 2102 9 0 3");
    FerriteBoard halts = Bench.at(2100, Bench.BSR, 98);
    Bench.put(halts, 2200, Bench.HLT);
    Check.is("HALTED", Bench.all(halts.stepOver(), where(halts)), "6 4 2201 6");
    FerriteBoard breaks = Bench.at(2100, Bench.BSR, 98);
    Bench.put(breaks, 2200, Bench.NONE);
    Check.is("BROKEN", Bench.all(breaks.stepOver(), where(breaks)), "6 5 2200 6");
    FerriteBoard ever = Bench.at(2100, Bench.BSR, 98);
    Bench.put(ever, 2200, Bench.WAI);
    Check.is("5000 cycles", Bench.all(ever.stepOver(), where(ever)), "5000 1 2201 5000");
    FerriteBoard last = Bench.at(2100, Bench.BSR, 98);
    Bench.put(last, 2200, Bench.WAI, Bench.RTS);
    Check.is("deeper calls do not stop it", Bench.all(last.stepOver(), last.stopped(), last.calls()), "5000 1 1");
    FerriteBoard itself = Bench.at(2100, Bench.JSR + 3, 52, 8);
    Check.is("one more each time", Bench.all(itself.stepOver() > 190, itself.stopped(), itself.calls()), "true 1 40");
    FerriteBoard fewer = Bench.at(2100, Bench.BSR, 0, Bench.BSR, 97);
    Bench.put(fewer, 2201, Bench.RTI);
    Bench.steps(fewer, 1);
    Check.is("RTI takes it away", Bench.all(fewer.calls(), fewer.stepOver(), fewer.stopped(), fewer.calls()), "1 9 6 1");
    FerriteBoard off = Bench.at(2100, Bench.HLT);
    off.step();
    Check.is("HALTED ahead of it", Bench.all(off.stepOver(), off.stopped(), off.history()), "0 4 1");
    FerriteBoard broken = Bench.at(2100, Bench.NONE);
    broken.step();
    Check.is("BROKEN ahead of it", Bench.all(broken.stepOver(), broken.stopped(), broken.history()), "0 5 1");
  }

  /** "stops as well, ahead of all others but HALTED and BROKEN, if there are fewer CALLS than ahead of it (6)" */
  private static void out() {
    FerriteBoard board = Bench.at(2100, Bench.BSR, 98, Bench.HLT);
    Bench.put(board, 2200, Bench.NOP, Bench.BSR, 3, Bench.NOP, Bench.RTS);
    Bench.put(board, 2206, Bench.NOP, Bench.RTS);
    board.step();
    Check.is("over a deeper call", Bench.all(board.stepOut(), where(board), board.calls()), "14 6 2102 19 0");
    Check.is("of none it never is fewer", Bench.all(board.stepOut(), where(board)), "1 4 2103 20");
    Check.is("HALTED ahead of it", Bench.all(board.stepOut(), where(board)), "0 4 2103 20");
    FerriteBoard rts = Bench.at(2100, Bench.RTS);
    rts.poke(257, 9);
    rts.poke(2304, Bench.WAI);
    Check.is("an RTS of none", Bench.all(rts.stepOut(), where(rts), rts.calls()), "5000 1 2305 5000 0");
    FerriteBoard watch = Bench.at(2100, Bench.BSR, 98);
    Bench.put(watch, 2200, Bench.RTS);
    watch.step();
    watch.setWatch(510, 511, true, false);
    watch.setBreak(2102, 2);
    Check.is("ahead of a watch and a break", Bench.all(watch.stepOut(), where(watch), watch.clearBreak(2102)), "3 6 2102 8 2");
    FerriteBoard stop = Bench.at(2100, Bench.BSR, 98);
    Bench.put(stop, 2200, Bench.NOP, Bench.LDA + 2, 5, Bench.RTS);
    stop.step();
    stop.setBreak(2201, 0);
    Check.is("a break on the way", Bench.all(stop.stepOut(), where(stop)), "1 2 2201 6");
    stop.setWatch(5, 5, true, false);
    Check.is("a watch on the way", Bench.all(stop.stepOut(), where(stop)), "3 3 2203 9");
    Check.is("then out", Bench.all(stop.stepOut(), where(stop)), "3 6 2102 12");
    FerriteBoard forty = new FerriteBoard();
    for (int i = 0; i < 60; i++) Bench.put(forty, 2100 + 2 * i, Bench.BSR, 0);
    forty.setRegister(4, 2100);
    Bench.steps(forty, 45);
    Bench.put(forty, forty.pc(), Bench.RTS);
    Check.is("out with 40", Bench.all(forty.stepOut(), forty.stopped(), forty.calls()), "3 6 39");
    FerriteBoard ever = Bench.at(2100, Bench.BSR, 98);
    Bench.put(ever, 2200, Bench.WAI);
    ever.step();
    Check.is("5000 cycles", Bench.all(ever.stepOut(), ever.stopped(), ever.calls()), "5000 1 1");
    FerriteBoard broken = Bench.at(2100, Bench.BSR, 98);
    Bench.put(broken, 2200, Bench.NONE);
    broken.step();
    Check.is("BROKEN", Bench.all(broken.stepOut(), broken.stopped(), broken.stepOut(), broken.stopped()), "1 5 0 5");
  }

  /** "0 if there was none since the latest reset() or back(), or assemble() without an error" */
  private static void stopped() {
    FerriteBoard board = Bench.at(2100, Bench.NOP, Bench.NOP, Bench.NOP);
    Check.is("none yet", board.stopped(), 0);
    board.run(1);
    Check.is("run()", board.stopped(), 1);
    board.step();
    Check.is("step() leaves it", board.stopped(), 1);
    board.stepOver();
    Check.is("stepOver()", board.stopped(), 6);
    for (int call = 0; call < 9; call++) {
      board.setRegister(4, 2100);
      board.run(1);
      switch (call) {
        case 0: board.feed(0x21202020, 0x20202020, 0x20202020, 0x20202020, 0x20202020); break;
        case 1: board.assemble(); break;
        case 2: board.trim(0); break;
        case 3: board.key(1); break;
        case 4: board.signal(); break;
        case 5: board.poke(1, 1); break;
        case 6: board.setBreak(1, 1); break;
        case 7: board.setWatch(1, 1, true, true); break;
        default: board.cyclesToHalt(9); break;
      }
      Check.is("it stays behind the call " + call, board.stopped(), 1);
    }
    board.back(1);
    Check.is("back()", board.stopped(), 0);
    board.run(1);
    board.reset();
    Check.is("reset()", board.stopped(), 0);
    board.run(1);
    Check.is("assemble()", Bench.all(board.stopped(), board.assemble(), board.stopped()), "1 0 0");
  }

  public static void main(String[] args) {
    historyIsFull();
    historyComesBack();
    historyBeginsAnew();
    backBringsAll();
    historyIsEmptyBehind();
    backLeavesBreaksAndWatches();
    runByCycles();
    runByTheFirstNamed();
    breaks();
    breaksAndVectors();
    noVectorWouldBeTaken();
    sixBreaks();
    watchEnds();
    whatCounts();
    whatOfVectorsCounts();
    fourWatches();
    fortyCalls();
    over();
    overAndTheOthers();
    out();
    stopped();
    Check.finish();
  }
}
