/** The edges of each guest step, in each phase in which the guest runs: what changes, and that nothing else does. */
public final class StepEdgeTest {
  private static final int LEAST = Integer.MIN_VALUE;
  private static final int GREATEST = Integer.MAX_VALUE;
  private static final int[] RUNNING = {0, 1, 3};
  /** Bits 14 to 31, which mean nothing. */
  private static final int HIGH = -1 << 14;
  /** Register b, k, and the address that they make. */
  private static final int[][] ADDRESSES = {
    {0, 4, 4}, {0, 63, 63}, {0, 64, 0}, {0, 127, 63}, {63, 0, 63}, {63, 1, 0}, {64, 0, 0}, {127, 127, 62},
    {-1, 0, 63}, {-1, 1, 0}, {-64, 63, 63}, {-65, 0, 63}, {GREATEST, 0, 63}, {GREATEST, 1, 0},
    {GREATEST, 127, 62}, {LEAST, 0, 0}, {LEAST, 127, 63}, {LEAST + 63, 0, 63}, {LEAST + 64, 0, 0},
  };

  private static final Due due = new Due();

  public static void main(String[] args) {
    for (int phase : RUNNING) {
      nothing(phase);
      setsRegister(phase);
      loads(phase);
      stores(phase);
      storesIntoItself(phase);
      adds(phase);
      subtracts(phase);
      jumps(phase);
      shows(phase);
      pcGoesOn(phase);
    }
    noStepWhileStopped();
    theNextWordIsTakenWhereTheGuestRuns();
    due.end();
  }

  private static void nothing(int phase) {
    for (int place : new int[] {20, 63}) {
      for (int word : new int[] {0, HIGH, -8, 0x3ff8}) {
        due.at("'0 nothing, and the PC stays', the word " + word + " at " + place + ", phase " + phase);
        Migrator x = OneStep.before(due, phase, place, word, 1, 2, 3, 4).x;
        Picture want = Picture.of(x);
        due.is("run(1)", x.run(1), 1);
        due.is("run(1000)", x.run(1000), 1000);
        compare(x, want);
        due.is("pc()", x.pc(), place);
      }
    }
  }

  private static void setsRegister(int phase) {
    for (int a = 0; a < 4; a++) {
      for (int k : new int[] {0, 1, 63, 64, 127}) {
        due.at("'1 register a becomes k', a is " + a + ", k is " + k + ", phase " + phase);
        Migrator x = OneStep.before(due, phase, 20, Guest.set(a, k) | HIGH, -1, -2, -3, -4).x;
        Picture want = Picture.of(x);
        want.registers[a] = k;
        step(x, want, 21);
      }
    }
  }

  private static void loads(int phase) {
    for (int[] t : ADDRESSES) {
      due.at("'2 register a becomes the word at (register b + k) & 63', b is " + t[0] + ", k is " + t[1]
          + ", phase " + phase);
      Migrator x = OneStep.before(due, phase, 20, Guest.load(1, 2, t[1]), 5, 6, t[0], 8).x;
      Picture want = Picture.of(x);
      want.registers[1] = want.source[t[2]];
      step(x, want, 21);
      Migrator same = OneStep.before(due, phase, 20, Guest.load(3, 3, t[1]), 5, 6, 7, t[0]).x;
      Picture wantSame = Picture.of(same);
      wantSame.registers[3] = wantSame.source[t[2]];
      step(same, wantSame, 21);
    }
  }

  private static void stores(int phase) {
    for (int[] t : ADDRESSES) {
      for (int v : new int[] {LEAST, 0, OneStep.filler(t[2])}) {
        due.at("'3 the word at (register b + k) & 63 becomes register a', a is " + v + ", b is " + t[0]
            + ", k is " + t[1] + ", phase " + phase);
        Migrator x = OneStep.before(due, phase, 20, Guest.store(1, 2, t[1]), 5, v, t[0], 8).x;
        Picture want = Picture.of(x);
        write(want, t[2], v);
        step(x, want, 21);
      }
      Migrator same = OneStep.before(due, phase, 20, Guest.store(3, 3, t[1]), 5, 6, 7, t[0]).x;
      Picture wantSame = Picture.of(same);
      write(wantSame, t[2], t[0]);
      step(same, wantSame, 21);
    }
  }

  private static void storesIntoItself(int phase) {
    due.at("'the word at (register b + k) & 63 becomes register a', its own word, phase " + phase);
    for (int place : new int[] {20, 63}) {
      Migrator x = OneStep.before(due, phase, place, Guest.store(0, 2, place), Guest.set(3, 9), 6, 0, 8).x;
      Picture want = Picture.of(x);
      write(want, place, Guest.set(3, 9));
      step(x, want, place + 1 & 63);
    }
    due.at("'A GUEST STEP takes the word w at the PC', written by the step before, phase " + phase);
    Migrator x = OneStep.before(due, phase, 20, Guest.store(0, 2, 21), Guest.set(3, 9), 6, 0, 8).x;
    Picture want = Picture.of(x);
    write(want, 21, Guest.set(3, 9));
    want.registers[3] = 9;
    x.run(1);
    step(x, want, 22);
  }

  private static void adds(int phase) {
    int[][] sums = {{1, 2, 3}, {GREATEST, 1, LEAST}, {GREATEST, GREATEST, -2}, {LEAST, -1, GREATEST},
      {LEAST, LEAST, 0}, {-1, 1, 0}, {GREATEST, LEAST, -1}, {GREATEST, 0, GREATEST}, {0, LEAST, LEAST}};
    for (int[] t : sums) {
      due.at("'4 register a becomes register a + register b (wrapping)', " + t[0] + " + " + t[1]
          + ", phase " + phase);
      registerThreeBecomes(t[2], phase, Guest.add(3, 1), t[1], t[0]);
    }
    due.at("'register a + register b (wrapping)', a is b, phase " + phase);
    registerThreeBecomes(LEAST, phase, Guest.add(3, 3), 6, 1 << 30);
  }

  private static void subtracts(int phase) {
    int[][] differences = {{1, 2, -1}, {LEAST, 1, GREATEST}, {GREATEST, -1, LEAST}, {0, LEAST, LEAST},
      {-1, LEAST, GREATEST}, {LEAST, GREATEST, 1}, {GREATEST, LEAST, -1}, {LEAST, LEAST, 0}, {LEAST, 0, LEAST}};
    for (int[] t : differences) {
      due.at("'5 register a becomes register a - register b (wrapping)', " + t[0] + " - " + t[1]
          + ", phase " + phase);
      registerThreeBecomes(t[2], phase, Guest.subtract(3, 1), t[1], t[0]);
    }
    due.at("'register a - register b (wrapping)', a is b, phase " + phase);
    registerThreeBecomes(0, phase, Guest.subtract(3, 3), 6, LEAST);
  }

  /** The word's k and its high bits mean nothing here, so they are set. */
  private static void registerThreeBecomes(int v, int phase, int word, int registerOne, int registerThree) {
    Migrator x = OneStep.before(due, phase, 20, word | HIGH | 127 << 7, 5, registerOne, 7, registerThree).x;
    Picture want = Picture.of(x);
    want.registers[3] = v;
    step(x, want, 21);
  }

  private static void jumps(int phase) {
    int[][] targets = {{0, 0}, {1, 1}, {20, 20}, {62, 62}, {63, 63}, {64, 0}, {65, 1}, {126, 62}, {127, 63}};
    for (int place : new int[] {20, 62, 63}) {
      for (int[] t : targets) {
        for (int v : new int[] {0, 1, -1, LEAST, GREATEST, 64, 1 << 16}) {
          due.at("'6 if register a is not 0, the PC becomes k & 63', a is " + v + ", k is " + t[0] + " at " + place
              + ", phase " + phase);
          Migrator x = OneStep.before(due, phase, place, Guest.jump(2, t[0]) | HIGH, 5, 6, v, 8).x;
          step(x, Picture.of(x), v != 0 ? t[1] : place + 1 & 63);
        }
      }
    }
  }

  private static void shows(int phase) {
    int[] values = {LEAST, 0, -1, GREATEST};
    for (int a = 0; a < 4; a++) {
      due.at("'7 SHOWS register a', a is " + a + ", phase " + phase);
      Migrator x = OneStep.before(due, phase, 20, Guest.show(a) | HIGH | 3 << 5 | 127 << 7, values).x;
      Picture want = Picture.of(x);
      want.shows = 1;
      want.shown[0] = values[a];
      step(x, want, 21);
    }
  }

  private static void pcGoesOn(int phase) {
    int[] words = {Guest.set(0, 5), Guest.load(0, 2, 0), Guest.store(0, 2, 30), Guest.add(0, 2), Guest.subtract(0, 2),
      Guest.jump(2, 9), Guest.show(0)};
    for (int place : new int[] {20, 62, 63}) {
      for (int word : words) {
        due.at("'the PC becomes (PC + 1) & 63', the word " + word + " at " + place + ", phase " + phase);
        Migrator x = OneStep.before(due, phase, place, word, 5, 6, 0, 8).x;
        due.is("pc() before", x.pc(), place);
        due.is("run(1)", x.run(1), 1);
        due.is("pc() after", x.pc(), place == 63 ? 0 : place + 1);
      }
    }
  }

  private static void noStepWhileStopped() {
    int[] words = {0, Guest.set(0, 5), Guest.load(0, 2, 0), Guest.store(0, 2, 30), Guest.add(0, 2),
      Guest.subtract(0, 2), Guest.jump(0, 9), Guest.show(0)};
    for (int word : words) {
      due.at("'in 2 it does not run', the word " + word);
      Migrator x = OneStep.before(due, 2, 20, word, 5, 6, 7, 8).x;
      Picture want = Picture.of(x);
      due.is("run(1)", x.run(1), 0);
      compare(x, want);
      due.is("pc()", x.pc(), 20);
    }
  }

  /** A word that was written after its page's copy is at the source alone as long as its page is not copied again. */
  private static void theNextWordIsTakenWhereTheGuestRuns() {
    due.at("'In 0 and 1 the guest runs on the source's memory', though its page is copied");
    Migrator x = OneStep.before(due, 1, 20, Guest.store(0, 2, 21), Guest.set(3, 9), 6, 0, 8).x;
    Full.copyEight(x);
    x.run(1);
    due.is("source(21)", x.source(21), Guest.set(3, 9));
    due.is("destination(21)", x.destination(21), OneStep.filler(21));
    x.run(1);
    due.is("register(3)", x.register(3), 9);

    due.at("'in 3 it runs on the destination's memory, and the source's stays as it was'");
    Migrator y = OneStep.before(due, 3, 20, Guest.store(0, 2, 21), Guest.set(3, 9), 6, 0, 8).x;
    y.run(1);
    due.is("source(21)", y.source(21), OneStep.filler(21));
    due.is("destination(21)", y.destination(21), Guest.set(3, 9));
    y.run(1);
    due.is("register(3)", y.register(3), 9);
  }

  /** What a write of the guest changes beside the PC. */
  private static void write(Picture want, int address, int v) {
    if (want.phase == 3) {
      want.destination[address] = v;
      return;
    }
    want.source[address] = v;
    if (want.phase == 1) {
      want.dirty = "" + address / 8;
    }
  }

  private static void step(Migrator x, Picture want, int pc) {
    due.is("run(1)", x.run(1), 1);
    want.pc = pc;
    compare(x, want);
  }

  private static void compare(Migrator x, Picture want) {
    due.same("the state", Picture.of(x).text(), want.text());
  }
}
