/** Each promise of the document by itself: ordinary inputs, its edges, wrong inputs. */
public final class PromiseTest {
  private static final int[] NO_ADDRESSES = {-1, 64, 65, 128, -64, Integer.MIN_VALUE, Integer.MAX_VALUE};
  private static final int[] NO_PAGES = {-1, 8, 9, 31, 32, 33, 64, -32, Integer.MIN_VALUE, Integer.MAX_VALUE};

  private static final Due due = new Due();

  public static void main(String[] args) {
    newObject();
    pokeWrites();
    pokeIsRefused();
    beginStarts();
    beginIsRefused();
    runCounts();
    runIsRefused();
    stepStays();
    stepSets();
    stepLoads();
    stepStores();
    stepAddsAndSubtracts();
    stepJumps();
    stepShows();
    pcWraps();
    stepIgnoresHighBits();
    stepMayChangeItself();
    runGoesOnAtTheDestination();
    copyIsRefused();
    copyTakesTheLowest();
    copyTakesWordsAsTheyAre();
    copyBeginsNextRound();
    copyStopsAtThreshold();
    copyStopsAtLimit();
    copyMoves();
    phaseIsTold();
    roundIsTold();
    dirtyIsTold();
    dirtyIsKeptAfterTheStop();
    waitsIsTold();
    sourceIsTold();
    destinationIsTold();
    registerIsTold();
    pcIsTold();
    showsIsTold();
    shownIsTold();
    objectsAreApart();
    due.end();
  }

  // Promise 1

  private static void newObject() {
    due.at("promise 1, a new object");
    Migrator x = new Migrator();
    due.is("phase()", x.phase(), 0);
    due.is("round()", x.round(), 0);
    due.is("pc()", x.pc(), 0);
    due.is("shows()", x.shows(), 0);
    due.same("dirty pages", Guest.dirty(x), "");
    due.same("waiting pages", Guest.waiting(x), "");
    for (int i = 0; i < 64; i++) {
      due.is("source(" + i + ")", x.source(i), 0);
      due.is("destination(" + i + ")", x.destination(i), 0);
    }
    for (int i = 0; i < 8; i++) {
      due.is("register(" + i + ")", x.register(i), 0);
      due.is("shown(" + i + ")", x.shown(i), 0);
    }
  }

  // Promise 2

  private static void pokeWrites() {
    due.at("promise 2, poke");
    Migrator x = new Migrator();
    for (int i = 0; i < 64; i++) {
      due.is("poke(" + i + ")", x.poke(i, -100 - i), true);
    }
    for (int i = 0; i < 64; i++) {
      due.is("source(" + i + ")", x.source(i), -100 - i);
      due.is("destination(" + i + ")", x.destination(i), 0);
    }
    due.is("poke of the least", x.poke(7, Integer.MIN_VALUE), true);
    due.is("source(7)", x.source(7), Integer.MIN_VALUE);
    due.is("poke of the greatest", x.poke(7, Integer.MAX_VALUE), true);
    due.is("source(7)", x.source(7), Integer.MAX_VALUE);
    due.same("dirty pages", Guest.dirty(x), "");

    Migrator ran = Guest.with(Guest.set(1, 5), Guest.store(1, 0, 30));
    ran.run(2);
    due.is("poke after run", ran.poke(30, 9), true);
    due.is("source(30)", ran.source(30), 9);
    due.is("poke of the next step", ran.poke(2, Guest.show(1)), true);
    ran.run(1);
    due.is("shown(0)", ran.shown(0), 5);
  }

  private static void pokeIsRefused() {
    due.at("promise 2, poke refused");
    Migrator x = Guest.with(1, 2, 3);
    String all = Guest.all(x);
    for (int address : NO_ADDRESSES) {
      due.is("poke(" + address + ", 7)", x.poke(address, 7), false);
    }
    due.same("state after poke", Guest.all(x), all);
    for (int phase = 1; phase <= 3; phase++) {
      Migrator y = inPhase(phase);
      String before = Guest.all(y);
      due.is("poke(60, 7) in phase " + phase, y.poke(60, 7), false);
      due.is("poke(64, 7) in phase " + phase, y.poke(64, 7), false);
      due.same("state after poke in phase " + phase, Guest.all(y), before);
    }
  }

  // Promise 3

  private static void beginStarts() {
    due.at("promise 3, begin");
    int[][] taken = {{0, 1}, {0, 20}, {8, 1}, {8, 20}, {4, 10}};
    for (int[] t : taken) {
      Migrator x = new Migrator();
      String call = "begin(" + t[0] + ", " + t[1] + ")";
      due.is(call, x.begin(t[0], t[1]), true);
      due.is("phase() after " + call, x.phase(), 1);
      due.is("round() after " + call, x.round(), 1);
      due.same("waiting pages after " + call, Guest.waiting(x), "01234567");
      due.same("dirty pages after " + call, Guest.dirty(x), "");
    }
    Migrator wrote = Guest.with(Guest.set(1, 5), Guest.store(1, 0, 30));
    wrote.run(2);
    wrote.begin(3, 3);
    due.same("dirty pages, written before begin", Guest.dirty(wrote), "");
    due.is("destination(30)", wrote.destination(30), 0);
  }

  private static void beginIsRefused() {
    due.at("promise 3, begin refused");
    int[][] refused = {
      {-1, 5}, {9, 5}, {4, 0}, {4, -1}, {4, 21}, {-1, 0}, {9, 21},
      {Integer.MIN_VALUE, 5}, {Integer.MAX_VALUE, 5}, {4, Integer.MIN_VALUE}, {4, Integer.MAX_VALUE},
    };
    for (int[] r : refused) {
      Migrator x = Guest.with(1, 2, 3);
      String before = Guest.all(x);
      due.is("begin(" + r[0] + ", " + r[1] + ")", x.begin(r[0], r[1]), false);
      due.same("state after begin(" + r[0] + ", " + r[1] + ")", Guest.all(x), before);
      due.is("begin after a refused one", x.begin(8, 1), true);
    }
    for (int phase = 1; phase <= 3; phase++) {
      Migrator x = inPhase(phase);
      String before = Guest.all(x);
      due.is("begin(2, 2) in phase " + phase, x.begin(2, 2), false);
      due.same("state after begin in phase " + phase, Guest.all(x), before);
    }
    Migrator x = Guest.with(Guest.set(1, 1), Guest.store(1, 0, 40), Guest.jump(1, 1));
    x.begin(0, 5);
    x.begin(8, 1);
    x.run(5);
    Guest.copyWaiting(x);
    due.is("copy() by the first begin's numbers", x.copy(), 32);
  }

  // Promise 4

  private static void runCounts() {
    due.at("promise 4, run");
    Migrator x = Guest.with(Guest.set(1, 1), Guest.add(0, 1), Guest.jump(1, 1));
    due.is("run(0)", x.run(0), 0);
    due.is("pc()", x.pc(), 0);
    due.is("run(1)", x.run(1), 1);
    due.is("pc()", x.pc(), 1);
    due.is("run(1000)", x.run(1000), 1000);
    due.is("register(0)", x.register(0), 500);
    due.is("run(999)", x.run(999), 999);
    due.is("register(0)", x.register(0), 1000);
    x.begin(0, 1);
    due.is("run(4) in phase 1", x.run(4), 4);
    due.is("register(0)", x.register(0), 1002);
    Migrator halted = new Migrator();
    due.is("run(3) where the PC stays", halted.run(3), 3);
  }

  private static void runIsRefused() {
    due.at("promise 4, run refused");
    int[] wrong = {-1, 1001, 1002, Integer.MIN_VALUE, Integer.MAX_VALUE};
    for (int phase = 0; phase <= 3; phase++) {
      Migrator x = inPhase(phase);
      String before = Guest.all(x);
      for (int n : wrong) {
        due.is("run(" + n + ") in phase " + phase, x.run(n), 0);
      }
      due.same("state after run in phase " + phase, Guest.all(x), before);
    }
    Migrator stopped = inPhase(2);
    String before = Guest.all(stopped);
    due.is("run(1) in phase 2", stopped.run(1), 0);
    due.is("run(1000) in phase 2", stopped.run(1000), 0);
    due.same("state after run in phase 2", Guest.all(stopped), before);
  }

  private static void stepStays() {
    due.at("terms, op 0");
    Migrator x = Guest.with(Guest.set(1, 3), Guest.stay() | 0x3ff8);
    x.run(1);
    String before = Guest.all(x);
    due.is("run(5)", x.run(5), 5);
    due.same("state", Guest.all(x), before);
    due.is("pc()", x.pc(), 1);
  }

  private static void stepSets() {
    due.at("terms, op 1");
    Migrator x = Guest.with(Guest.set(0, 127), Guest.set(1, 64), Guest.set(2, 1), Guest.set(3, 99), Guest.set(3, 0));
    x.run(4);
    due.is("register(0)", x.register(0), 127);
    due.is("register(1)", x.register(1), 64);
    due.is("register(2)", x.register(2), 1);
    due.is("register(3)", x.register(3), 99);
    x.run(1);
    due.is("register(3)", x.register(3), 0);
    due.is("pc()", x.pc(), 5);
  }

  private static void stepLoads() {
    due.at("terms, op 2");
    Migrator x = Guest.with(Guest.set(1, 100), Guest.load(2, 1, 10), Guest.load(3, 0, 127), Guest.load(1, 1, 0));
    x.poke(46, -77);
    x.poke(63, 88);
    x.poke(36, 99);
    x.run(4);
    due.is("register(2), the word at 110 & 63", x.register(2), -77);
    due.is("register(3), the word at 127 & 63", x.register(3), 88);
    due.is("register(1), the word at 100 & 63", x.register(1), 99);
    due.is("pc()", x.pc(), 4);

    Migrator below = Guest.with(Guest.set(1, 1), Guest.subtract(0, 1), Guest.load(2, 0, 0), Guest.load(3, 0, 3));
    below.poke(63, 55);
    below.run(4);
    due.is("register(2), the word at -1 & 63", below.register(2), 55);
    due.is("register(3), the word at 2", below.register(3), Guest.load(2, 0, 0));

    Migrator over = Guest.with(Guest.load(1, 0, 40), Guest.load(2, 1, 5));
    over.poke(40, Integer.MAX_VALUE);
    over.poke(4, 66);
    over.run(2);
    due.is("register(2), the word at a wrapped sum", over.register(2), 66);
  }

  private static void stepStores() {
    due.at("terms, op 3");
    Migrator x = Guest.with(Guest.set(1, 100), Guest.store(1, 1, 10), Guest.store(1, 0, 127), Guest.store(2, 1, 0));
    x.poke(36, 5);
    x.run(4);
    due.is("source(46)", x.source(46), 100);
    due.is("source(63)", x.source(63), 100);
    due.is("source(36)", x.source(36), 0);
    due.is("destination(46)", x.destination(46), 0);
    due.is("register(1)", x.register(1), 100);
    due.is("pc()", x.pc(), 4);

    Migrator below = Guest.with(Guest.set(1, 1), Guest.subtract(0, 1), Guest.store(0, 0, 0));
    below.run(3);
    due.is("source(63), stored at -1 & 63", below.source(63), -1);
  }

  private static void stepAddsAndSubtracts() {
    due.at("terms, ops 4 and 5");
    Migrator x = Guest.with(Guest.load(0, 0, 40), Guest.load(1, 1, 41), Guest.add(0, 1), Guest.subtract(0, 1),
        Guest.subtract(2, 0), Guest.subtract(2, 1), Guest.subtract(2, 1), Guest.add(1, 1), Guest.subtract(0, 0));
    x.poke(40, Integer.MAX_VALUE);
    x.poke(41, 1);
    x.run(3);
    due.is("the greatest and one more", x.register(0), Integer.MIN_VALUE);
    x.run(1);
    due.is("the least and one less", x.register(0), Integer.MAX_VALUE);
    x.run(2);
    due.is("0 less the greatest less 1", x.register(2), Integer.MIN_VALUE);
    x.run(1);
    due.is("the least less 1", x.register(2), Integer.MAX_VALUE);
    due.is("register(1) is only read", x.register(1), 1);
    x.run(2);
    due.is("a register added to itself", x.register(1), 2);
    due.is("a register less itself", x.register(0), 0);
    due.is("pc()", x.pc(), 9);
  }

  private static void stepJumps() {
    due.at("terms, op 6");
    Migrator x = Guest.with(Guest.jump(3, 50), Guest.set(3, 1), Guest.jump(3, 64 + 20));
    x.poke(20, Guest.subtract(3, 2));
    x.poke(21, Guest.subtract(2, 3));
    x.poke(22, Guest.jump(2, 22));
    x.run(1);
    due.is("pc(), register 3 is 0", x.pc(), 1);
    x.run(2);
    due.is("pc(), k is 84", x.pc(), 20);
    x.run(2);
    due.is("register(2)", x.register(2), -1);
    x.run(3);
    due.is("pc(), a jump to itself by a negative register", x.pc(), 22);
  }

  private static void stepShows() {
    due.at("terms, op 7");
    Migrator x = Guest.with(Guest.set(0, 10), Guest.set(3, 13), Guest.show(3), Guest.show(0), Guest.show(1));
    x.run(5);
    due.is("shows()", x.shows(), 3);
    due.is("shown(2)", x.shown(2), 13);
    due.is("shown(1)", x.shown(1), 10);
    due.is("shown(0)", x.shown(0), 0);
    due.is("pc()", x.pc(), 5);
  }

  private static void pcWraps() {
    due.at("terms, the PC wraps");
    int[] ops = {Guest.set(1, 1), Guest.load(1, 0, 0), Guest.store(1, 0, 40), Guest.add(1, 1),
      Guest.subtract(1, 1), Guest.jump(1, 30), Guest.show(1)};
    for (int op : ops) {
      Migrator x = Guest.with(Guest.set(2, 1), Guest.jump(2, 63));
      x.poke(63, op);
      x.run(2);
      due.is("pc() before", x.pc(), 63);
      x.run(1);
      due.is("pc() after the word " + op, x.pc(), 0);
    }
  }

  private static void stepIgnoresHighBits() {
    due.at("terms, bits from 14 on");
    int high = 0xffffc000;
    Migrator x = Guest.with(Guest.set(1, 127) | high, Guest.store(1, 0, 5) | high, Guest.jump(1, 60) | high);
    x.poke(60, Guest.show(1) | high);
    x.run(4);
    due.is("register(1)", x.register(1), 127);
    due.is("source(5)", x.source(5), 127);
    due.is("shown(0)", x.shown(0), 127);
    due.is("pc()", x.pc(), 61);
    Migrator b = Guest.with(Guest.set(1, 127), Guest.set(2, 1), Guest.jump(1, 3), Guest.show(1) | 0x3fe0,
        Guest.add(1, 2) | 0x3f80);
    b.run(5);
    due.is("shown(0)", b.shown(0), 127);
    due.is("register(1)", b.register(1), 128);
  }

  private static void stepMayChangeItself() {
    due.at("terms, a step writes its own program");
    Migrator x = Guest.with(Guest.load(1, 0, 40), Guest.store(1, 0, 2), Guest.stay(), Guest.store(0, 0, 3));
    x.poke(40, Guest.show(1));
    x.run(3);
    due.is("shown(0)", x.shown(0), Guest.show(1));
    x.run(1);
    due.is("source(3)", x.source(3), 0);
    due.is("pc()", x.pc(), 4);
  }

  private static void runGoesOnAtTheDestination() {
    due.at("promise 4, run in phase 3");
    Migrator x = counter();
    x.begin(8, 1);
    Guest.copyUntil(x, 3);
    String source = Guest.sourceMemory(x);
    due.same("destination's memory", Guest.destinationMemory(x), source);
    due.is("run(7)", x.run(7), 7);
    due.is("destination(40)", x.destination(40), 2);
    due.is("register(0)", x.register(0), 2);
    due.same("source's memory", Guest.sourceMemory(x), source);

    Migrator y = Guest.with(Guest.set(1, 9), Guest.store(1, 0, 40), Guest.load(2, 0, 40), Guest.store(2, 0, 4),
        Guest.stay());
    y.poke(40, 3);
    y.begin(8, 1);
    Guest.copyUntil(y, 3);
    y.run(4);
    due.is("register(2), read at the destination", y.register(2), 9);
    due.is("source(40)", y.source(40), 3);
    y.run(5);
    due.is("pc(), past the word written at the destination", y.pc(), 5);
    due.is("register(1), set by that word", y.register(1), 0);
  }

  // Promise 5

  private static void copyIsRefused() {
    due.at("promise 5, copy refused");
    for (int phase = 0; phase <= 3; phase += 3) {
      Migrator x = inPhase(phase);
      String before = Guest.all(x);
      due.is("copy() in phase " + phase, x.copy(), -1);
      due.is("copy() in phase " + phase, x.copy(), -1);
      due.same("state after copy in phase " + phase, Guest.all(x), before);
    }
  }

  private static void copyTakesTheLowest() {
    due.at("promise 5, copy takes the lowest page");
    Migrator x = new Migrator();
    for (int i = 0; i < 64; i++) {
      x.poke(i, 1000 + i);
    }
    x.begin(0, 20);
    for (int p = 0; p < 8; p++) {
      due.is("copy()", x.copy(), p);
      due.same("waiting pages", Guest.waiting(x), "01234567".substring(p + 1));
      for (int i = 8 * p; i < 8 * p + 8; i++) {
        due.is("destination(" + i + ")", x.destination(i), 1000 + i);
      }
      due.is("the next page's first word", x.destination(8 * p + 8), 0);
      due.is("the last word", x.destination(63), p < 7 ? 0 : 1063);
    }
    Migrator y = writer(7, 2, 5);
    y.begin(0, 20);
    y.run(6);
    Guest.copyWaiting(y);
    due.is("copy() at the round's end", y.copy(), 32);
    due.is("copy()", y.copy(), 2);
    due.is("copy()", y.copy(), 5);
    due.is("copy()", y.copy(), 7);
    due.is("copy(), none is dirty", y.copy(), 33);
    due.is("copy(), none waits", y.copy(), 34);
  }

  private static void copyTakesWordsAsTheyAre() {
    due.at("promise 5, copy takes the words as they are now");
    Migrator x = Guest.with(Guest.set(1, 5), Guest.store(1, 0, 40), Guest.set(1, 6), Guest.store(1, 0, 40),
        Guest.set(1, 7), Guest.store(1, 0, 40));
    x.begin(0, 20);
    x.run(2);
    due.is("destination(40) before", x.destination(40), 0);
    Guest.copyWaiting(x);
    due.is("destination(40), written before its copy", x.destination(40), 5);
    due.is("dirty(5), copied after the write", x.dirty(5), true);
    x.run(2);
    due.is("destination(40), written after its copy", x.destination(40), 5);
    due.is("copy()", x.copy(), 32);
    x.run(2);
    due.is("copy()", x.copy(), 5);
    due.is("destination(40), copied again", x.destination(40), 7);
    due.is("source(40)", x.source(40), 7);
  }

  private static void copyBeginsNextRound() {
    due.at("promise 5, copy begins the next round");
    Migrator x = writer(3, 6);
    x.begin(1, 20);
    x.run(4);
    Guest.copyWaiting(x);
    due.same("dirty pages in round 1", Guest.dirty(x), "36");
    due.is("copy()", x.copy(), 32);
    due.is("phase()", x.phase(), 1);
    due.is("round()", x.round(), 2);
    due.same("dirty pages", Guest.dirty(x), "");
    due.same("waiting pages", Guest.waiting(x), "36");
    Guest.copyWaiting(x);
    due.is("copy()", x.copy(), 33);
    due.is("round()", x.round(), 2);
  }

  private static void copyStopsAtThreshold() {
    due.at("promise 5, the threshold");
    for (int dirty = 0; dirty <= 7; dirty++) {
      for (int threshold = 0; threshold <= 8; threshold++) {
        Migrator x = writer(firstPages(dirty));
        x.begin(threshold, 2);
        x.run(2 * dirty);
        Guest.copyWaiting(x);
        String pages = Guest.dirty(x);
        due.is("number of dirty pages", pages.length(), dirty);
        due.is("copy(), " + dirty + " dirty, threshold " + threshold, x.copy(), dirty <= threshold ? 33 : 32);
        due.same("waiting pages", Guest.waiting(x), pages);
        due.same("dirty pages", Guest.dirty(x), dirty <= threshold ? pages : "");
      }
    }
    Migrator all = Guest.with(Guest.store(3, 0, 0), Guest.store(3, 0, 8), Guest.store(3, 0, 16),
        Guest.store(3, 0, 24), Guest.store(3, 0, 32), Guest.store(3, 0, 40), Guest.store(3, 0, 48),
        Guest.store(3, 0, 56));
    all.begin(8, 20);
    all.run(8);
    Guest.copyWaiting(all);
    due.is("copy(), 8 dirty, threshold 8", all.copy(), 33);
    due.same("waiting pages", Guest.waiting(all), "01234567");
  }

  private static void copyStopsAtLimit() {
    due.at("promise 5, the limit");
    for (int limit = 1; limit <= 20; limit++) {
      Migrator x = counter();
      x.begin(0, limit);
      for (int round = 1; round <= limit; round++) {
        due.is("round(), limit " + limit, x.round(), round);
        x.run(6);
        Guest.copyWaiting(x);
        due.is("copy() in round " + round + ", limit " + limit, x.copy(), round == limit ? 33 : 32);
      }
      due.is("phase()", x.phase(), 2);
      due.is("round()", x.round(), limit);
      due.same("waiting pages", Guest.waiting(x), "5");
    }
  }

  private static void copyMoves() {
    due.at("promise 5, copy in phase 2");
    Migrator x = writer(1, 4);
    x.begin(8, 1);
    x.run(4);
    Guest.copyWaiting(x);
    x.run(1);
    due.is("copy()", x.copy(), 33);
    due.is("copy()", x.copy(), 1);
    due.is("phase()", x.phase(), 2);
    due.same("waiting pages", Guest.waiting(x), "4");
    due.is("copy()", x.copy(), 4);
    due.is("phase()", x.phase(), 2);
    due.same("waiting pages", Guest.waiting(x), "");
    String guest = Guest.inside(x);
    due.is("copy()", x.copy(), 34);
    due.is("phase()", x.phase(), 3);
    due.same("the guest", Guest.inside(x), guest);
    due.same("destination's memory", Guest.destinationMemory(x), Guest.sourceMemory(x));

    Migrator none = new Migrator();
    none.begin(0, 1);
    Guest.copyWaiting(none);
    due.is("copy(), none is dirty", none.copy(), 33);
    due.same("waiting pages", Guest.waiting(none), "");
    due.is("copy()", none.copy(), 34);
  }

  // Promises 6 and 7

  private static void phaseIsTold() {
    due.at("promise 6, phase");
    for (int phase = 0; phase <= 3; phase++) {
      due.is("phase()", inPhase(phase).phase(), phase);
    }
  }

  private static void roundIsTold() {
    due.at("promise 7, round");
    Migrator x = counter();
    x.run(10);
    due.is("round() in phase 0", x.round(), 0);
    x.begin(0, 3);
    for (int round = 1; round <= 3; round++) {
      due.is("round() in phase 1", x.round(), round);
      x.run(6);
      Guest.copyWaiting(x);
      x.copy();
    }
    due.is("round() in phase 2", x.round(), 3);
    Guest.copyUntil(x, 3);
    due.is("round() in phase 3", x.round(), 3);
    x.run(10);
    x.copy();
    due.is("round() in phase 3", x.round(), 3);
  }

  // Promise 8

  private static void dirtyIsTold() {
    due.at("promise 8, dirty");
    for (int address = 8; address < 64; address++) {
      Migrator x = Guest.with(Guest.set(1, 1), Guest.store(1, 0, address));
      x.begin(0, 20);
      x.run(1);
      due.same("dirty pages before the write", Guest.dirty(x), "");
      x.run(1);
      due.same("dirty pages, address " + address, Guest.dirty(x), "" + address / 8);
    }
    Migrator same = Guest.with(Guest.store(0, 0, 20), Guest.load(1, 0, 50), Guest.show(1));
    same.begin(0, 20);
    same.run(3);
    due.same("dirty pages, the word was the same before", Guest.dirty(same), "2");
    due.is("waits(2)", same.waits(2), true);
    for (int page : NO_PAGES) {
      due.is("dirty(" + page + ")", same.dirty(page), false);
    }
    Migrator home = counter();
    home.run(100);
    due.same("dirty pages in phase 0", Guest.dirty(home), "");
  }

  private static void dirtyIsKeptAfterTheStop() {
    due.at("promise 8, dirty in phases 2 and 3");
    Migrator x = Guest.with(Guest.store(0, 0, 16), Guest.store(0, 0, 56), Guest.store(0, 0, 32));
    x.begin(2, 20);
    x.run(2);
    Guest.copyWaiting(x);
    x.copy();
    due.same("dirty pages in phase 2", Guest.dirty(x), "27");
    x.copy();
    due.same("dirty pages after a copy in phase 2", Guest.dirty(x), "27");
    Guest.copyUntil(x, 3);
    due.same("dirty pages in phase 3", Guest.dirty(x), "27");
    x.run(1);
    due.same("dirty pages after a write in phase 3", Guest.dirty(x), "27");
    for (int page : NO_PAGES) {
      due.is("dirty(" + page + ")", x.dirty(page), false);
    }
  }

  // Promise 9

  private static void waitsIsTold() {
    due.at("promise 9, waits");
    Migrator x = writer(3, 6);
    due.same("waiting pages in phase 0", Guest.waiting(x), "");
    x.begin(0, 2);
    due.same("waiting pages in round 1", Guest.waiting(x), "01234567");
    for (int page : NO_PAGES) {
      due.is("waits(" + page + ")", x.waits(page), false);
    }
    x.copy();
    x.run(4);
    due.same("waiting pages after copy and writes", Guest.waiting(x), "1234567");
    Guest.copyWaiting(x);
    due.same("waiting pages at the round's end", Guest.waiting(x), "");
    x.copy();
    due.same("waiting pages in round 2", Guest.waiting(x), "36");
    x.copy();
    due.same("waiting pages in round 2", Guest.waiting(x), "6");
    Guest.copyUntil(x, 3);
    x.run(5);
    due.same("waiting pages in phase 3", Guest.waiting(x), "");
    Migrator stopped = inPhase(2);
    due.same("waiting pages in phase 2", Guest.waiting(stopped), "5");
  }

  // Promises 10 to 15

  private static void sourceIsTold() {
    due.at("promise 10, source");
    for (int phase = 0; phase <= 3; phase++) {
      Migrator x = inPhase(phase);
      due.is("source(0) in phase " + phase, x.source(0), Guest.set(1, 1));
      due.is("source(40) in phase " + phase, x.source(40), 1);
      due.is("source(63) in phase " + phase, x.source(63), -63);
      for (int address : NO_ADDRESSES) {
        due.is("source(" + address + ")", x.source(address), 0);
      }
    }
  }

  private static void destinationIsTold() {
    due.at("promise 11, destination");
    for (int phase = 0; phase <= 3; phase++) {
      Migrator x = inPhase(phase);
      due.is("destination(0) in phase " + phase, x.destination(0), phase < 2 ? 0 : Guest.set(1, 1));
      due.is("destination(63) in phase " + phase, x.destination(63), phase < 2 ? 0 : -63);
      for (int address : NO_ADDRESSES) {
        due.is("destination(" + address + ")", x.destination(address), 0);
      }
    }
  }

  private static void registerIsTold() {
    due.at("promise 12, register");
    Migrator x = Guest.with(Guest.set(0, 11), Guest.set(1, 12), Guest.set(2, 13), Guest.set(3, 14));
    x.run(4);
    for (int i = 0; i < 4; i++) {
      due.is("register(" + i + ")", x.register(i), 11 + i);
    }
    int[] wrong = {-1, 4, 5, 8, -4, Integer.MIN_VALUE, Integer.MAX_VALUE};
    for (int i : wrong) {
      due.is("register(" + i + ")", x.register(i), 0);
    }
  }

  private static void pcIsTold() {
    due.at("promise 13, pc");
    Migrator x = new Migrator();
    for (int i = 0; i < 64; i++) {
      x.poke(i, Guest.set(0, i));
    }
    for (int i = 1; i <= 130; i++) {
      x.run(1);
      due.is("pc() after " + i + " steps", x.pc(), i % 64);
    }
  }

  private static void showsIsTold() {
    due.at("promise 14, shows");
    Migrator x = new Migrator();
    for (int i = 0; i < 64; i++) {
      x.poke(i, Guest.show(0));
    }
    for (int i = 1; i <= 20; i++) {
      x.run(1);
      due.is("shows()", x.shows(), i);
    }
    for (int i = 1; i <= 350; i++) {
      x.run(1000);
    }
    due.is("shows()", x.shows(), 350020);
  }

  private static void shownIsTold() {
    due.at("promise 15, shown");
    Migrator x = Guest.with(Guest.set(1, 1), Guest.add(0, 1), Guest.show(0), Guest.jump(1, 1));
    x.run(1);
    for (int shows = 1; shows <= 30; shows++) {
      x.run(3);
      for (int k = 0; k < 8; k++) {
        due.is("shown(" + k + ") after " + shows, x.shown(k), k < shows ? shows - k : 0);
      }
      int[] wrong = {-1, 8, 9, 16, -8, Integer.MIN_VALUE, Integer.MAX_VALUE};
      for (int k : wrong) {
        due.is("shown(" + k + ") after " + shows, x.shown(k), 0);
      }
    }
  }

  private static void objectsAreApart() {
    due.at("two objects");
    Migrator x = new Migrator();
    String fresh = Guest.all(x);
    Migrator y = inPhase(3);
    y.run(50);
    due.same("the other object", Guest.all(x), fresh);
  }

  // Guests for the tests above

  /** Counts at address 40 in turns of three steps, after a first step. */
  private static Migrator counter() {
    Migrator x = Guest.with(Guest.set(1, 1), Guest.add(0, 1), Guest.store(0, 2, 40), Guest.jump(1, 1));
    x.poke(63, -63);
    return x;
  }

  /** The counter in a phase; from phase 1 on it has begun, in 2 and 3 page 5 was dirty at the stop. */
  private static Migrator inPhase(int phase) {
    Migrator x = counter();
    if (phase > 0) {
      x.begin(1, 4);
    }
    x.run(3);
    if (phase > 1) {
      Guest.copyUntil(x, phase);
    }
    return x;
  }

  /** Writes to these pages, two steps a page; its own words end below page 2 for up to seven pages. */
  private static Migrator writer(int... pages) {
    Migrator x = new Migrator();
    for (int i = 0; i < pages.length; i++) {
      x.poke(2 * i, Guest.set(1, 50 + i));
      x.poke(2 * i + 1, Guest.store(1, 0, 8 * pages[i] + 7));
    }
    return x;
  }

  private static int[] firstPages(int n) {
    int[] pages = new int[n];
    for (int i = 0; i < n; i++) {
      pages[i] = i + 1;
    }
    return pages;
  }
}
