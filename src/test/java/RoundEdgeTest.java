/** The edges of the rounds: pages, waiting, dirty, threshold, limit, the stop and the move. */
public final class RoundEdgeTest {
  private static final String ALL = "01234567";

  private static final Due due = new Due();

  public static void main(String[] args) {
    aPageIsEightWords();
    firstAndLastWordOfAPageMakeItDirty();
    readingMakesNoPageDirty();
    sameWordMakesItDirty();
    dirtyWhetherItWaitsOrNot();
    dirtySinceTheRoundBegan();
    nothingIsDirtyWhenRoundOneBegins();
    noPageDirty();
    allPagesDirty();
    firstPageAlone();
    lastPageAlone();
    firstAndLastPage();
    atMostThreshold();
    limitEndsTheRounds();
    thresholdBeforeTheLimit();
    thresholdInTheLimitsRound();
    waitingPagesComeFirst();
    dirtyStaysAfterTheStop();
    stoppedPagesAreCopied();
    wordsAreCopiedAsTheyAreNow();
    phasesInTheirOrder();
    copiedSourceStays();
    due.end();
  }

  private static void aPageIsEightWords() {
    due.at("'PAGE a is the eight words from 8 * a on'; promise 5, 'its eight words'");
    Migrator x = Full.atHome();
    x.begin(0, 1);
    for (int page = 0; page < 8; page++) {
      due.is("copy()", x.copy(), page);
      for (int address = Math.max(0, 8 * page - 1); address <= Math.min(63, 8 * page + 8); address++) {
        int want = address < 8 * page + 8 ? Full.word(address) : 0;
        due.is("destination(" + address + ") after page " + page, x.destination(address), want);
      }
      due.is("destination(0) after page " + page, x.destination(0), Full.word(0));
      due.is("destination(63) after page " + page, x.destination(63), page == 7 ? Full.word(63) : 0);
    }
  }

  private static void firstAndLastWordOfAPageMakeItDirty() {
    for (int page = 0; page < 8; page++) {
      for (int address : new int[] {8 * page, 8 * page + 7}) {
        due.at("'a page is DIRTY if the guest wrote a word of it', address " + address);
        Migrator x = Guest.with(Guest.set(1, 9), Guest.store(1, 0, address));
        x.begin(0, 20);
        x.run(2);
        due.same("dirty pages", Guest.dirty(x), "" + page);
        due.same("waiting pages", Guest.waiting(x), ALL);
        Guest.copyWaiting(x);
        due.is("copy()", x.copy(), 32);
        due.same("waiting pages in round 2", Guest.waiting(x), "" + page);
        due.is("copy()", x.copy(), page);
      }
    }
  }

  private static void readingMakesNoPageDirty() {
    due.at("'a page is DIRTY if the guest wrote a word of it (op 3 ..)', by any other step it is not");
    Migrator x = Guest.with(Guest.set(1, 9), Guest.load(2, 0, 40), Guest.add(2, 1), Guest.subtract(2, 1),
        Guest.show(1), Guest.jump(0, 20), Guest.jump(1, 56), Guest.stay());
    x.poke(56, Guest.show(1));
    x.begin(0, 20);
    due.is("run(20)", x.run(20), 20);
    due.is("pc()", x.pc(), 57);
    due.same("dirty pages", Guest.dirty(x), "");
  }

  private static void sameWordMakesItDirty() {
    due.at("'also if the word was the same before'");
    Migrator zero = Guest.with(Guest.store(0, 0, 63));
    zero.begin(0, 20);
    zero.run(1);
    due.same("dirty pages, 0 over 0", Guest.dirty(zero), "7");
    Migrator x = Guest.with(Guest.load(1, 0, 0), Guest.store(1, 0, 0));
    x.begin(0, 20);
    x.run(2);
    due.same("dirty pages, a word over itself", Guest.dirty(x), "0");
    Guest.copyWaiting(x);
    due.is("copy()", x.copy(), 32);
  }

  private static void dirtyWhetherItWaitsOrNot() {
    due.at("'whether it waits or not'");
    Migrator x = stores();
    x.begin(0, 20);
    for (int i = 0; i < 4; i++) {
      x.copy();
    }
    x.run(8);
    due.same("waiting pages", Guest.waiting(x), "4567");
    due.same("dirty pages, copied and waiting ones", Guest.dirty(x), ALL);
    Guest.copyWaiting(x);
    due.same("dirty pages after their copies", Guest.dirty(x), ALL);
    due.is("copy()", x.copy(), 32);
    due.same("waiting pages in round 2", Guest.waiting(x), ALL);
  }

  private static void dirtySinceTheRoundBegan() {
    due.at("'since the present ROUND began'");
    Migrator x = stores();
    x.begin(0, 20);
    endsRound(x, 3, 32);
    due.same("dirty pages as round 2 begins", Guest.dirty(x), "");
    x.run(1);
    due.same("dirty pages in round 2", Guest.dirty(x), "3");
    due.same("waiting pages in round 2", Guest.waiting(x), "012");
    endsRound(x, 1, 32);
    due.same("dirty pages as round 3 begins", Guest.dirty(x), "");
    due.same("waiting pages in round 3", Guest.waiting(x), "34");
  }

  private static void nothingIsDirtyWhenRoundOneBegins() {
    due.at("promise 3, 'Round 1 begins: all eight pages wait, none is dirty, the phase is 1'");
    Migrator x = stores();
    x.run(8);
    due.same("dirty pages in phase 0, all are written", Guest.dirty(x), "");
    due.same("waiting pages in phase 0", Guest.waiting(x), "");
    due.is("begin(0, 1)", x.begin(0, 1), true);
    due.is("phase()", x.phase(), 1);
    due.is("round()", x.round(), 1);
    due.same("dirty pages", Guest.dirty(x), "");
    due.same("waiting pages", Guest.waiting(x), ALL);
  }

  private static void noPageDirty() {
    due.at("promise 5, 'at most threshold pages dirty', none is, threshold 0");
    Migrator x = stores();
    x.begin(0, 20);
    Guest.copyWaiting(x);
    due.is("copy()", x.copy(), 33);
    due.is("phase()", x.phase(), 2);
    due.is("round()", x.round(), 1);
    due.same("waiting pages", Guest.waiting(x), "");
    due.same("dirty pages", Guest.dirty(x), "");
    due.is("copy()", x.copy(), 34);
    due.is("phase()", x.phase(), 3);
  }

  private static void allPagesDirty() {
    due.at("promise 5, 'the dirty pages wait', all are dirty");
    for (int threshold : new int[] {7, 8}) {
      Migrator x = stores();
      x.begin(threshold, 20);
      x.run(8);
      due.same("dirty pages", Guest.dirty(x), ALL);
      Guest.copyWaiting(x);
      due.is("copy(), threshold " + threshold, x.copy(), threshold == 8 ? 33 : 32);
      due.is("round()", x.round(), threshold == 8 ? 1 : 2);
      due.same("waiting pages", Guest.waiting(x), ALL);
      due.same("dirty pages", Guest.dirty(x), threshold == 8 ? ALL : "");
      for (int page = 0; page < 8; page++) {
        due.is("copy()", x.copy(), page);
      }
      due.is("copy() after all eight", x.copy(), threshold == 8 ? 34 : 33);
    }
  }

  private static void firstPageAlone() {
    due.at("promise 5, 'if a page waits', the first page alone");
    onlyThese("0", Guest.store(1, 0, 5));
  }

  private static void lastPageAlone() {
    due.at("promise 5, 'if a page waits', the last page alone");
    onlyThese("7", Guest.store(1, 0, 61));
  }

  private static void firstAndLastPage() {
    due.at("promise 5, 'the first one (the lowest number)', written in the other order");
    onlyThese("07", Guest.store(1, 0, 61), Guest.store(1, 0, 5));
  }

  /** Round 2 and then the stop have these pages waiting, and no others. */
  private static void onlyThese(String pages, int... writes) {
    Migrator x = new Migrator();
    for (int i = 0; i < writes.length; i++) {
      x.poke(i, writes[i]);
      x.poke(writes.length + i, writes[i]);
    }
    x.begin(0, 2);
    for (int round = 1; round <= 2; round++) {
      due.is("run()", x.run(writes.length), writes.length);
      Guest.copyWaiting(x);
      due.same("dirty pages", Guest.dirty(x), pages);
      due.is("copy() ends round " + round, x.copy(), 31 + round);
      due.same("waiting pages", Guest.waiting(x), pages);
    }
    for (int i = 0; i < pages.length(); i++) {
      due.is("copy()", x.copy(), pages.charAt(i) - '0');
      due.same("waiting pages", Guest.waiting(x), pages.substring(i + 1));
    }
    due.is("copy()", x.copy(), 34);
  }

  private static void atMostThreshold() {
    for (int threshold = 0; threshold <= 8; threshold++) {
      for (int dirty = 0; dirty <= 8; dirty++) {
        due.at("promise 5, 'are at most threshold pages dirty', " + dirty + " are, the threshold is " + threshold);
        Migrator x = stores();
        x.begin(threshold, 20);
        x.run(dirty);
        Guest.copyWaiting(x);
        boolean stops = dirty <= threshold;
        due.is("copy()", x.copy(), stops ? 33 : 32);
        due.is("phase()", x.phase(), stops ? 2 : 1);
        due.is("round()", x.round(), stops ? 1 : 2);
        due.same("waiting pages", Guest.waiting(x), ALL.substring(0, dirty));
        due.same("dirty pages", Guest.dirty(x), stops ? ALL.substring(0, dirty) : "");
      }
    }
  }

  private static void limitEndsTheRounds() {
    for (int limit = 1; limit <= 20; limit++) {
      due.at("promise 5, 'or is the round's number the limit', the limit is " + limit);
      Migrator x = Full.atHome();
      x.begin(7, limit);
      for (int round = 1; round <= limit; round++) {
        due.is("round()", x.round(), round);
        due.is("phase()", x.phase(), 1);
        x.run(100);
        Full.copyEight(x);
        due.is("copy() in round " + round, x.copy(), round < limit ? 32 : 33);
      }
      due.is("round()", x.round(), limit);
      due.is("phase()", x.phase(), 2);
      due.same("waiting pages", Guest.waiting(x), ALL);
      due.same("dirty pages", Guest.dirty(x), ALL);
      Full.copyEight(x);
      due.is("copy()", x.copy(), 34);
      due.is("round() in phase 3", x.round(), limit);
    }
  }

  private static void thresholdBeforeTheLimit() {
    due.at("promise 5, 'at most threshold pages dirty', in a round before the limit");
    Migrator x = stores();
    x.begin(1, 4);
    endsRound(x, 2, 32);
    endsRound(x, 2, 32);
    endsRound(x, 1, 33);
    due.is("round()", x.round(), 3);
    due.same("waiting pages", Guest.waiting(x), "4");
  }

  private static void thresholdInTheLimitsRound() {
    due.at("promise 5, both at once: few pages dirty in the last round");
    Migrator x = stores();
    x.begin(1, 2);
    endsRound(x, 2, 32);
    endsRound(x, 1, 33);
    due.is("round()", x.round(), 2);
    due.same("waiting pages", Guest.waiting(x), "2");
  }

  /** This many pages are written, and the copy behind the last waiting page has this answer. */
  private static void endsRound(Migrator x, int writes, int answer) {
    due.is("run(" + writes + ")", x.run(writes), writes);
    Guest.copyWaiting(x);
    due.is("copy(), dirty pages " + Guest.dirty(x), x.copy(), answer);
  }

  private static void waitingPagesComeFirst() {
    due.at("promise 5, 'if a page waits', the round does not end, though no page is dirty and the limit is reached");
    Migrator x = stores();
    x.begin(8, 1);
    for (int page = 0; page < 8; page++) {
      due.is("phase()", x.phase(), 1);
      due.same("waiting pages", Guest.waiting(x), ALL.substring(page));
      due.is("copy()", x.copy(), page);
    }
    due.is("phase()", x.phase(), 1);
    due.same("waiting pages", Guest.waiting(x), "");
    x.run(1);
    due.is("copy(), a page written behind its copy waits in phase 2", x.copy(), 33);
    due.same("waiting pages", Guest.waiting(x), "0");
  }

  private static void dirtyStaysAfterTheStop() {
    due.at("'In phases 2 and 3 the dirty pages are those that were dirty when the guest was stopped'");
    for (int dirty = 0; dirty <= 8; dirty++) {
      String pages = ALL.substring(0, dirty);
      Migrator x = stores();
      x.begin(8, 20);
      x.run(dirty);
      Guest.copyWaiting(x);
      x.copy();
      for (int i = 0; i < dirty; i++) {
        x.copy();
        due.same("dirty pages after " + (i + 1) + " copies in phase 2", Guest.dirty(x), pages);
      }
      due.is("copy()", x.copy(), 34);
      due.same("dirty pages in phase 3", Guest.dirty(x), pages);
      due.is("run(8), which writes the other pages", x.run(8 - dirty), 8 - dirty);
      due.same("dirty pages after the writes in phase 3", Guest.dirty(x), pages);
      due.same("waiting pages after the writes in phase 3", Guest.waiting(x), "");
    }
  }

  private static void stoppedPagesAreCopied() {
    due.at("promise 5, 'Else (phase 2) the phase becomes 3', not before the last waiting page");
    Migrator x = Full.inPhase(2);
    for (int page = 0; page < 8; page++) {
      due.is("copy()", x.copy(), page);
      due.is("phase()", x.phase(), 2);
      due.same("waiting pages", Guest.waiting(x), ALL.substring(page + 1));
      due.is("run(1) between the copies", x.run(1), 0);
    }
    due.is("copy()", x.copy(), 34);
    due.is("phase()", x.phase(), 3);
    due.same("destination's memory", Guest.destinationMemory(x), Guest.sourceMemory(x));
    due.is("run(1)", x.run(1), 1);
  }

  private static void wordsAreCopiedAsTheyAreNow() {
    due.at("promise 5, 'its eight words as they are now'");
    Migrator x = Guest.with(Guest.set(1, 1), Guest.add(0, 1), Guest.store(0, 2, 56), Guest.store(0, 2, 63),
        Guest.jump(1, 1));
    x.begin(0, 3);
    x.run(5);
    for (int page = 0; page < 7; page++) {
      x.copy();
    }
    x.run(4);
    due.is("destination(56) before its page is copied", x.destination(56), 0);
    due.is("copy()", x.copy(), 7);
    due.is("destination(56)", x.destination(56), 2);
    due.is("destination(63)", x.destination(63), 2);
    x.run(4);
    due.is("destination(56), written behind the copy", x.destination(56), 2);
    due.is("copy()", x.copy(), 32);
    x.run(4);
    due.is("copy()", x.copy(), 7);
    due.is("destination(56) in round 2", x.destination(56), 4);
    x.run(4);
    due.is("copy()", x.copy(), 32);
    due.is("copy()", x.copy(), 7);
    due.is("destination(56) in round 3", x.destination(56), 5);
    x.run(4);
    due.is("copy()", x.copy(), 33);
    due.is("destination(63) at the stop", x.destination(63), 5);
    due.is("copy()", x.copy(), 7);
    due.is("destination(63) before the move", x.destination(63), 6);
    due.is("source(63)", x.source(63), 6);
  }

  private static void phasesInTheirOrder() {
    due.at("promises 6 and 7, the phase and the round before and behind each change");
    Migrator x = stores();
    phaseAndRound(x, 0, 0);
    x.begin(9, 1);
    phaseAndRound(x, 0, 0);
    x.begin(0, 2);
    phaseAndRound(x, 1, 1);
    x.run(2);
    Guest.copyWaiting(x);
    phaseAndRound(x, 1, 1);
    x.copy();
    phaseAndRound(x, 1, 2);
    x.run(2);
    Guest.copyWaiting(x);
    phaseAndRound(x, 1, 2);
    x.copy();
    phaseAndRound(x, 2, 2);
    Guest.copyWaiting(x);
    phaseAndRound(x, 2, 2);
    x.copy();
    phaseAndRound(x, 3, 2);
    x.copy();
    phaseAndRound(x, 3, 2);
    due.is("begin(0, 2) in phase 3", x.begin(0, 2), false);
    phaseAndRound(x, 3, 2);
  }

  private static void phaseAndRound(Migrator x, int phase, int round) {
    due.is("phase()", x.phase(), phase);
    due.is("round()", x.round(), round);
  }

  private static void copiedSourceStays() {
    due.at("'in 3 it runs on the destination's memory, and the source's stays as it was'");
    Migrator x = Guest.with(Guest.set(1, 1), Guest.add(0, 1), Guest.store(0, 2, 8), Guest.store(0, 2, 63),
        Guest.jump(1, 1));
    x.begin(8, 1);
    x.run(5);
    Guest.copyUntil(x, 3);
    String source = Guest.sourceMemory(x);
    due.same("destination's memory", Guest.destinationMemory(x), source);
    x.run(400);
    due.is("destination(8)", x.destination(8), 101);
    due.is("destination(63)", x.destination(63), 101);
    due.same("source's memory", Guest.sourceMemory(x), source);
  }

  /** Its step i, for i from 0 to 7, writes a word of page i. */
  private static Migrator stores() {
    Migrator x = new Migrator();
    for (int page = 0; page < 8; page++) {
      x.poke(page, Guest.store(3, 0, 8 * page));
    }
    return x;
  }
}
