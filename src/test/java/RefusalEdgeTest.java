/** "A call that is refused changes nothing. Questions change nothing.": in each phase, call by call. */
public final class RefusalEdgeTest {
  private static final int LEAST = Integer.MIN_VALUE;
  private static final int GREATEST = Integer.MAX_VALUE;

  private static final Due due = new Due();
  /** What a guest of each phase answers later that had no such call. */
  private static final String[] rests = new String[4];

  private interface Call {
    long on(Migrator x);
  }

  public static void main(String[] args) {
    for (int phase = 0; phase <= 3; phase++) {
      due.at("phase " + phase);
      rests[phase] = Full.rest(Full.inPhase(phase));
      poke(phase);
      begin(phase);
      run(phase);
      questions(phase);
    }
    copy(0);
    copy(3);
    due.end();
  }

  private static void poke(int phase) {
    due.at("promise 2, 'false if there is no such address, or the phase is not 0', phase " + phase);
    for (int address : new int[] {-1, 64, LEAST, GREATEST}) {
      changesNothing(phase, "poke(" + address + ", 5)", 0, x -> truth(x.poke(address, 5)));
    }
    for (int address : phase == 0 ? new int[0] : new int[] {0, 31, 63}) {
      changesNothing(phase, "poke(" + address + ", 5)", 0, x -> truth(x.poke(address, 5)));
    }
  }

  private static void begin(int phase) {
    due.at("promise 3, 'else false; false also if the phase is not 0', phase " + phase);
    int[][] wrong = {{-1, 1}, {-1, 20}, {9, 1}, {9, 20}, {0, 0}, {8, 0}, {0, 21}, {8, 21}, {-1, 0}, {9, 21},
      {LEAST, 5}, {GREATEST, 5}, {5, LEAST}, {5, GREATEST}};
    int[][] right = {{0, 1}, {0, 20}, {8, 1}, {8, 20}, {Full.THRESHOLD, Full.LIMIT}};
    for (int[] pair : wrong) {
      changesNothing(phase, "begin(" + pair[0] + ", " + pair[1] + ")", 0, x -> truth(x.begin(pair[0], pair[1])));
    }
    for (int[] pair : phase == 0 ? new int[0][] : right) {
      changesNothing(phase, "begin(" + pair[0] + ", " + pair[1] + ")", 0, x -> truth(x.begin(pair[0], pair[1])));
    }
  }

  private static void run(int phase) {
    due.at("promise 4, '(0 .. 1000, else none); none in phase 2', phase " + phase);
    for (int n : new int[] {-1, 0, 1001, LEAST, GREATEST}) {
      changesNothing(phase, "run(" + n + ")", 0, x -> x.run(n));
    }
    for (int n : phase == 2 ? new int[] {1, 2, 999, 1000} : new int[0]) {
      changesNothing(phase, "run(" + n + ")", 0, x -> x.run(n));
    }
  }

  private static void copy(int phase) {
    due.at("promise 5, '-1 in phases 0 and 3', phase " + phase);
    changesNothing(phase, "copy()", -1, x -> x.copy());
    changesNothing(phase, "copy() after copy()", -2, x -> x.copy() + x.copy());
  }

  private static void questions(int phase) {
    due.at("terms, 'Questions change nothing.', phase " + phase);
    int round = new int[] {0, 2, Full.LIMIT, Full.LIMIT}[phase];
    changesNothing(phase, "phase()", phase, x -> x.phase());
    changesNothing(phase, "round()", round, x -> x.round());
    changesNothing(phase, "dirty(p), the first and the last", phase > 0 ? 2 : 0,
        x -> truth(x.dirty(-1)) + truth(x.dirty(0)) + truth(x.dirty(7)) + truth(x.dirty(8)));
    changesNothing(phase, "waits(p), the first and the last", phase == 1 || phase == 2 ? 2 : 0,
        x -> truth(x.waits(-1)) + truth(x.waits(0)) + truth(x.waits(7)) + truth(x.waits(8)));
    changesNothing(phase, "source(a), the first and the last", Full.word(0) + Full.word(63),
        x -> x.source(-1) + x.source(0) + x.source(63) + x.source(64));
    changesNothing(phase, "destination(a), the first and the last", phase > 0 ? Full.word(0) + Full.word(63) : 0,
        x -> x.destination(-1) + x.destination(0) + x.destination(63) + x.destination(64));
    changesNothing(phase, "register(i), the first and the last", 64 + 77,
        x -> x.register(-1) + x.register(0) + x.register(3) + x.register(4));
    changesNothing(phase, "pc() asked twice", 0, x -> x.pc() - x.pc());
    changesNothing(phase, "shows() asked twice", 0, x -> x.shows() - x.shows());
    changesNothing(phase, "shown(k) beyond", 0, x -> x.shown(-1) + x.shown(8) + x.shown(7) - x.shown(7));
  }

  /** The state is the same behind the call, and so is all that comes later. */
  private static void changesNothing(int phase, String name, long want, Call call) {
    Migrator x = Full.inPhase(phase);
    String before = Guest.all(x);
    due.is(name, call.on(x), want);
    due.same("the state after " + name, Guest.all(x), before);
    due.same("what comes after " + name, Full.rest(x), rests[phase]);
  }

  private static long truth(boolean answer) {
    return answer ? 1 : 0;
  }
}
