/** Section 4 of the document, sentence by sentence: what a step is, and what it takes. */
public final class EdgesStepsTest {
  private static FerriteBoard vectored(int... bytes) {
    FerriteBoard board = Bench.at(600, bytes);
    for (int k = 0; k < 8; k++) Bench.vector(board, k, 1000 + 10 * k);
    return board;
  }

  /** The lines 1, 2, 4 and 8 of a number come into PENDING. */
  private static void pend(FerriteBoard board, int lines) {
    if ((lines & 1) != 0) {
      Bench.write(board, 1798, 1);
      Bench.write(board, 1800, 1);
    }
    if ((lines & 2) != 0) board.key(7);
    if ((lines & 4) != 0) board.signal();
    if ((lines & 8) != 0) Bench.write(board, 1806, 1);
    Check.is("PENDING", board.pending(), lines);
  }

  /** "(a) It is HALTED or BROKEN: nothing." */
  private static void ended() {
    for (int code : new int[] {Bench.HLT, Bench.NONE}) {
      FerriteBoard board = vectored(code, Bench.INX);
      pend(board, 15);
      Bench.write(board, 1793, 15);
      Bench.write(board, 1798, 200);
      Bench.write(board, 1800, 3);
      board.setRegister(4, 600);
      board.step();
      int state = board.state();
      Check.is("it ends", state, code == Bench.HLT ? 2 : 3);
      board.setRegister(3, 0);
      board.nmi();
      int count = board.count();
      String ahead = Check.everything(board);
      Check.is("no cycle", Bench.all(board.step(), board.step()), "0 0");
      Check.is("nothing", Check.everything(board), ahead);
      Check.is("no cycle by any of them", Bench.all(board.run(9), board.stepOver(), board.stepOut()), "0 0 0");
      int pc = code == Bench.HLT ? 601 : 600;
      Check.is("nothing by any of them", Bench.all(board.state(), board.count(), board.pc(), board.history()), Bench.all(state, count, pc, 0));
    }
    FerriteBoard wanted = vectored(Bench.HLT);
    wanted.step();
    wanted.nmi();
    wanted.step();
    Check.is("an NMI stays wanted", wanted.nmi(), true);
  }

  /** "(b) An NMI is wanted: it is wanted no more, and taken by VECTOR 1." */
  private static void nmiFirst() {
    for (int flags : new int[] {0, 4, 31, 27}) {
      for (int wait = 0; wait < 2; wait++) {
        FerriteBoard board = vectored(Bench.WAI, Bench.INX);
        pend(board, 15);
        Bench.write(board, 1793, wait == 1 ? 0 : 15);
        board.setRegister(3, flags);
        if (wait == 1) board.step();
        int from = board.pc();
        Check.is("not wanted ahead", board.nmi(), false);
        Check.is("an NMI takes", board.step(), 5);
        String due = Bench.all(1010, flags | 4, 0, 252, from, flags, 15);
        Check.is("an NMI ahead of lines", Bench.all(board.pc(), board.flags(), board.state(), board.s(), board.callAt(0), board.byteAt(509), board.pending()), due);
        Check.is("wanted no more", board.nmi(), false);
      }
    }
  }

  /** "the one with the smallest number, k, is taken by VECTOR 2 + k", for all PENDING and MASK. */
  private static void lines() {
    for (int pending = 0; pending < 16; pending++) {
      for (int mask = 0; mask < 16; mask++) {
        FerriteBoard board = vectored(Bench.INX);
        pend(board, pending);
        Bench.write(board, 1793, mask);
        for (int flags : new int[] {0, 27, 4, 31}) {
          board.setRegister(4, 600);
          Bench.registers(board, 0, 0, 255, flags);
          int calls = board.calls();
          int k = 0;
          while (k < 4 && (pending & mask & 1 << k) == 0) k++;
          boolean taken = k < 4 && (flags & 4) == 0;
          int cycles = board.step();
          String what = "PENDING " + pending + ", MASK " + mask + ", FLAGS " + flags;
          Check.is(what, Bench.all(cycles, board.pc(), board.x(), board.pending()), taken ? Bench.all(5, 1020 + 10 * k, 0, pending) : Bench.all(1, 601, 1, pending));
          Check.is("calls of " + what, board.calls() - calls, taken ? 1 : 0);
        }
      }
    }
  }

  /** "(d) It is WAITING, and there are no such lines: one cycle goes by." and what is in brackets there. */
  private static void waiting() {
    for (int pending = 0; pending < 16; pending++) {
      for (int mask = 0; mask < 16; mask++) {
        for (int flags : new int[] {0, 4}) {
          FerriteBoard board = vectored(Bench.WAI, Bench.INX);
          pend(board, pending);
          Bench.write(board, 1793, mask);
          board.setRegister(3, 4);
          board.step();
          Check.is("WAITING", Bench.all(board.state(), board.pc()), "1 601");
          board.setRegister(3, flags);
          int k = 0;
          while (k < 4 && (pending & mask & 1 << k) == 0) k++;
          String due = k == 4 ? "1 1 601 0" : flags == 0 ? "5 0 " + (1020 + 10 * k) + " 0" : "1 0 602 1";
          Check.is("WAITING with " + pending + " " + mask + " " + flags, Bench.all(board.step(), board.state(), board.pc(), board.x()), due);
        }
      }
    }
  }

  private static void waitingThenBroken() {
    FerriteBoard board = vectored(Bench.WAI, Bench.NONE);
    Bench.write(board, 1793, 4);
    board.setRegister(3, 4);
    board.step();
    board.signal();
    Check.is("RUNNING again, and (e) in the same step", Bench.all(board.step(), board.state(), board.pc()), "1 3 601");
    FerriteBoard halts = vectored(Bench.WAI, Bench.HLT);
    Bench.write(halts, 1793, 4);
    halts.setRegister(3, 4);
    halts.step();
    halts.signal();
    Check.is("or HLT", Bench.all(halts.step(), halts.state(), halts.pc()), "1 2 602");
    FerriteBoard again = vectored(Bench.WAI, Bench.WAI);
    Bench.write(again, 1793, 4);
    again.setRegister(3, 4);
    again.step();
    again.signal();
    Check.is("or WAI", Bench.all(again.step(), again.state(), again.pc(), again.instructions()), "1 1 602 3");
  }

  /** "(e) The byte at PC is no instruction: BROKEN; PC stays; one cycle." */
  private static void broken() {
    for (int code : new int[] {39, 32, 129, 128, 145, 194, 198, 207, 218, 223, 255}) {
      FerriteBoard board = Bench.at(600, code, Bench.INX);
      String due = Bench.all(1, 3, 600, 1, 0, 0, -1, 1);
      Check.is("BROKEN by " + code, Bench.all(board.step(), board.state(), board.pc(), board.cycles(), board.instructions(), board.timesAt(600), board.hottest(),
          board.history()), due);
    }
  }

  /** "To take by a vector: it is RUNNING; PC is pushed, then FLAGS, I is set, and PC becomes the vector: 5 cycles." */
  private static void taken() {
    FerriteBoard board = vectored(Bench.NOP);
    board.poke(1010, Bench.RTI);
    board.setRegister(3, 27);
    board.nmi();
    Check.is("five cycles", Bench.all(board.step(), board.cycles(), board.instructions()), "5 5 0");
    Check.is("pushed", Bench.all(board.byteAt(511), board.byteAt(510), board.byteAt(509), board.flags()), Bench.all(2, 88, 27, 31));
    Check.is("and back", Bench.all(board.step(), board.pc(), board.flags(), board.s()), "4 600 27 255");
  }

  /** "2 more for each byte with which the copier is told to go" */
  private static void copierCycles() {
    for (int b : new int[] {0, 1, 2, 127, 128, 254, 255}) {
      FerriteBoard board = Bench.at(600, Bench.STA + 3, 14, 7);
      board.setRegister(0, b);
      Check.is("told " + b, Bench.all(board.step(), board.cycles(), board.pending()), Bench.all(4 + 2 * b, 4 + 2 * b, b == 0 ? 0 : 8));
      FerriteBoard ports = Bench.at(600, Bench.STA + 3, 14, 7);
      Bench.write(ports, 1803, 7);
      Bench.write(ports, 1805, 7);
      ports.setRegister(0, b);
      Check.is("\"2 * b cycles in any case\" " + b, ports.step(), 4 + 2 * b);
    }
    FerriteBoard inc = Bench.at(600, Bench.INC + 3, 14, 7);
    Check.is("INC tells 1", Bench.all(inc.step(), inc.pending()), "7 8");
    FerriteBoard dec = Bench.at(600, 8 * 19 + 3, 14, 7);
    Check.is("DEC tells 255", Bench.all(dec.step(), dec.pending()), "515 8");
  }

  /** "Behind each step the timer goes by as many cycles as it took." */
  private static void timerGoesBehindEachStep() {
    int[][] works = {{Bench.NOP}, {Bench.HLT}, {Bench.NONE}, {Bench.WAI}, {Bench.BRK}, {Bench.LDA + 3, 0, 0}, {15}, {31}, {Bench.BSR, 0}};
    int[] took = {1, 1, 1, 1, 6, 4, 9, 9, 5};
    for (int i = 0; i < works.length; i++) {
      FerriteBoard board = vectored(works[i]);
      Bench.write(board, 1798, 100);
      Bench.write(board, 1800, 1);
      Check.is("the step that starts it, too", board.count(), 96);
      board.step();
      Check.is("timer behind " + works[i][0], board.count(), 96 - took[i]);
    }
    FerriteBoard wait = vectored(Bench.WAI);
    Bench.write(wait, 1798, 100);
    Bench.write(wait, 1800, 1);
    Bench.steps(wait, 4);
    Check.is("while it is WAITING", wait.count(), 92);
    wait.nmi();
    wait.step();
    Check.is("while a vector is taken", wait.count(), 87);
    FerriteBoard stop = vectored(Bench.NOP);
    Bench.write(stop, 1798, 100);
    Bench.write(stop, 1800, 1);
    Bench.write(stop, 1800, 0);
    Check.is("not by the step that takes bit 1 out", stop.count(), 96);
    FerriteBoard wakes = vectored(Bench.WAI, Bench.INX);
    Bench.write(wakes, 1793, 1);
    Bench.write(wakes, 1798, 7);
    Bench.write(wakes, 1800, 1);
    wakes.setRegister(3, 0);
    Check.is("it waits till the timer", Bench.all(wakes.count(), wakes.run(5), wakes.pc(), wakes.state()), "3 8 1020 0");
  }

  public static void main(String[] args) {
    ended();
    nmiFirst();
    lines();
    waiting();
    waitingThenBroken();
    broken();
    taken();
    copierCycles();
    timerGoesBehindEachStep();
    Check.finish();
  }
}
