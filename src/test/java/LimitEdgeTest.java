/** The value just inside and the value just outside of each limit that the document names, in every phase. */
public final class LimitEdgeTest {
  private static final int LEAST = Integer.MIN_VALUE;
  private static final int GREATEST = Integer.MAX_VALUE;

  private static final Due due = new Due();

  public static void main(String[] args) {
    for (int phase = 0; phase <= 3; phase++) {
      sourceAddresses(phase);
      destinationAddresses(phase);
      registers(phase);
      dirtyPages(phase);
      waitingPages(phase);
      kOfShown(phase);
      numberOfSteps(phase);
    }
    pokeAddresses();
    thresholdAndLimit();
    shownNotSoOften();
    due.end();
  }

  private static void sourceAddresses(int phase) {
    due.at("promise 10, 'A word of the source's memory; 0 if there is no such address', phase " + phase);
    Migrator x = Full.inPhase(phase);
    due.is("source(0)", x.source(0), Full.word(0));
    due.is("source(63)", x.source(63), Full.word(63));
    for (int address : new int[] {-1, 64, 127, -64, LEAST, GREATEST}) {
      due.is("source(" + address + ")", x.source(address), 0);
    }
  }

  private static void destinationAddresses(int phase) {
    due.at("promise 11, 'A word of the destination's memory; 0 if there is no such address', phase " + phase);
    Migrator x = Full.inPhase(phase);
    due.is("destination(0)", x.destination(0), phase == 0 ? 0 : Full.word(0));
    due.is("destination(63)", x.destination(63), phase == 0 ? 0 : Full.word(63));
    for (int address : new int[] {-1, 64, 127, -64, LEAST, GREATEST}) {
      due.is("destination(" + address + ")", x.destination(address), 0);
    }
  }

  private static void registers(int phase) {
    due.at("promise 12, 'A register of the guest; 0 if there is no such register', phase " + phase);
    Migrator x = Full.inPhase(phase);
    due.is("register(0)", x.register(0), 64);
    due.is("register(3)", x.register(3), 77);
    for (int i : new int[] {-1, 4, 7, -4, LEAST, GREATEST}) {
      due.is("register(" + i + ")", x.register(i), 0);
    }
  }

  private static void dirtyPages(int phase) {
    due.at("promise 8, 'Whether a page is dirty; false if there is no such page', phase " + phase);
    Migrator x = Full.inPhase(phase);
    due.is("dirty(0)", x.dirty(0), phase > 0);
    due.is("dirty(7)", x.dirty(7), phase > 0);
    for (int page : new int[] {-1, 8, 32, 39, -32, LEAST, GREATEST}) {
      due.is("dirty(" + page + ")", x.dirty(page), false);
    }
  }

  private static void waitingPages(int phase) {
    due.at("promise 9, 'false if there is no such page, and in phases 0 and 3', phase " + phase);
    Migrator x = Full.inPhase(phase);
    due.is("waits(0)", x.waits(0), phase == 1 || phase == 2);
    due.is("waits(7)", x.waits(7), phase == 1 || phase == 2);
    for (int page : new int[] {-1, 8, 32, 39, -32, LEAST, GREATEST}) {
      due.is("waits(" + page + ")", x.waits(page), false);
    }
  }

  private static void kOfShown(int phase) {
    due.at("promise 15, '0 if k is not 0 .. 7', phase " + phase);
    Migrator x = Full.inPhase(phase);
    due.is("more than 16 shows", x.shows() > 16, true);
    due.is("shown(0) is not 0", x.shown(0) != 0, true);
    due.is("shown(7) is not 0", x.shown(7) != 0, true);
    for (int k : new int[] {-1, 8, 15, -8, LEAST, GREATEST}) {
      due.is("shown(" + k + ")", x.shown(k), 0);
    }
  }

  /** Each step of this guest shows, so that the shows tell the steps that were made. */
  private static void numberOfSteps(int phase) {
    due.at("promise 4, 'n guest steps (0 .. 1000, else none); none in phase 2', phase " + phase);
    int[] inside = {0, 1, 2, 63, 64, 65, 999, 1000};
    int[] outside = {-1, 1001, -1000, LEAST, GREATEST};
    Migrator x = showing();
    if (phase > 0) {
      x.begin(8, 1);
      Guest.copyUntil(x, phase);
    }
    int steps = 0;
    for (int n : inside) {
      int made = phase == 2 ? 0 : n;
      due.is("run(" + n + ")", x.run(n), made);
      steps += made;
      due.is("shows() after run(" + n + ")", x.shows(), steps);
      due.is("pc() after run(" + n + ")", x.pc(), steps % 64);
    }
    for (int n : outside) {
      due.is("run(" + n + ")", x.run(n), 0);
      due.is("shows() after run(" + n + ")", x.shows(), steps);
      due.is("pc() after run(" + n + ")", x.pc(), steps % 64);
    }
  }

  private static void pokeAddresses() {
    due.at("promise 2, 'A word of the source's memory becomes v; false if there is no such address'");
    Migrator x = Full.atHome();
    x.run(30);
    due.is("poke(0, least)", x.poke(0, LEAST), true);
    due.is("poke(63, greatest)", x.poke(63, GREATEST), true);
    for (int address : new int[] {-1, 64, 127, -64, LEAST, GREATEST}) {
      due.is("poke(" + address + ", 5)", x.poke(address, 5), false);
    }
    due.is("source(0)", x.source(0), LEAST);
    due.is("source(1)", x.source(1), Full.word(1));
    due.is("source(62)", x.source(62), Full.word(62));
    due.is("source(63)", x.source(63), GREATEST);
    due.is("poke(0, 0)", x.poke(0, 0), true);
    due.is("source(0)", x.source(0), 0);
    for (int address = 0; address < 64; address++) {
      due.is("destination(" + address + ")", x.destination(address), 0);
    }
  }

  private static void thresholdAndLimit() {
    due.at("promise 3, 'threshold is 0 .. 8 and limit 1 .. 20, else false'");
    int[] thresholds = {LEAST, -1, 0, 1, 7, 8, 9, GREATEST};
    int[] limits = {LEAST, -1, 0, 1, 2, 19, 20, 21, GREATEST};
    for (int threshold : thresholds) {
      for (int limit : limits) {
        boolean fits = threshold >= 0 && threshold <= 8 && limit >= 1 && limit <= 20;
        Migrator x = new Migrator();
        String call = "begin(" + threshold + ", " + limit + ")";
        due.is(call, x.begin(threshold, limit), fits);
        due.is("phase() after " + call, x.phase(), fits ? 1 : 0);
        due.is("round() after " + call, x.round(), fits ? 1 : 0);
        due.same("waiting pages after " + call, Guest.waiting(x), fits ? "01234567" : "");
        due.same("dirty pages after " + call, Guest.dirty(x), "");
      }
    }
  }

  private static void shownNotSoOften() {
    due.at("promise 15, 'or it has not shown so often'; the ninth show");
    Migrator x = Guest.with(Guest.set(1, 1), Guest.add(0, 1), Guest.show(0), Guest.jump(1, 1));
    x.run(1);
    for (int shows = 0; shows <= 18; shows++) {
      due.is("shows()", x.shows(), shows);
      for (int k = 0; k <= 8; k++) {
        due.is("shown(" + k + ") after " + shows + " shows", x.shown(k), k < shows && k < 8 ? shows - k : 0);
      }
      x.run(3);
    }
  }

  private static Migrator showing() {
    Migrator x = new Migrator();
    for (int address = 0; address < 64; address++) {
      x.poke(address, Guest.show(0));
    }
    return x;
  }
}
