/** A small guest machine that is moved from one host to another while it runs. */
public final class Migrator {
  private static final int WORDS = 64;
  private static final int ADDRESS_MASK = 63;
  private static final int PAGES = 8;
  private static final int PAGE_SHIFT = 3;
  private static final int PAGE_WORDS = 8;
  private static final int ALL_PAGES = 255;
  private static final int REGISTERS = 4;
  private static final int KEPT_SHOWS = 8;
  private static final int KEPT_MASK = 7;

  private static final int HOME = 0;
  private static final int COPYING = 1;
  private static final int STOPPED = 2;
  private static final int MOVED = 3;

  private static final int MOST_STEPS = 1000;
  private static final int MOST_ROUNDS = 20;

  private static final int NO_COPY = -1;
  private static final int NEXT_ROUND = 32;
  private static final int GUEST_STOPPED = 33;
  private static final int GUEST_MOVED = 34;

  private final int[] sourceWords;
  private final int[] destinationWords;
  private final int[] registers;
  /** A ring: the show numbered i (from 0) stands at i & KEPT_MASK. */
  private final int[] keptShows;
  private int programCounter;
  private int showCount;

  private int phaseNow;
  private int roundNow;
  private int dirtyThreshold;
  private int roundLimit;
  /** Sets of pages: bit p stands for page p. */
  private int dirtyPages;
  private int waitingPages;

  public Migrator() {
    sourceWords = new int[WORDS];
    destinationWords = new int[WORDS];
    registers = new int[REGISTERS];
    keptShows = new int[KEPT_SHOWS];
    programCounter = 0;
    showCount = 0;
    phaseNow = HOME;
    roundNow = 0;
    dirtyThreshold = 0;
    roundLimit = 0;
    dirtyPages = 0;
    waitingPages = 0;
  }

  public boolean poke(int address, int v) {
    if (phaseNow != HOME || !isAddress(address)) {
      return false;
    }
    sourceWords[address] = v;
    return true;
  }

  public boolean begin(int threshold, int limit) {
    if (phaseNow != HOME || threshold < 0 || threshold > PAGES || limit < 1 || limit > MOST_ROUNDS) {
      return false;
    }
    dirtyThreshold = threshold;
    roundLimit = limit;
    phaseNow = COPYING;
    roundNow = 1;
    waitingPages = ALL_PAGES;
    dirtyPages = 0;
    return true;
  }

  public int run(int n) {
    if (phaseNow == STOPPED || n < 0 || n > MOST_STEPS) {
      return 0;
    }
    for (int i = 0; i < n; i++) {
      guestStep();
    }
    return n;
  }

  public int copy() {
    if (phaseNow != COPYING && phaseNow != STOPPED) {
      return NO_COPY;
    }
    if (waitingPages != 0) {
      return copyFirstWaiting();
    }
    if (phaseNow == COPYING) {
      return endRound();
    }
    phaseNow = MOVED;
    return GUEST_MOVED;
  }

  public int phase() {
    return phaseNow;
  }

  public int round() {
    return roundNow;
  }

  public boolean dirty(int page) {
    return isPage(page) && hasPage(dirtyPages, page);
  }

  public boolean waits(int page) {
    return isPage(page) && hasPage(waitingPages, page);
  }

  public int source(int address) {
    return isAddress(address) ? sourceWords[address] : 0;
  }

  public int destination(int address) {
    return isAddress(address) ? destinationWords[address] : 0;
  }

  public int register(int i) {
    return i >= 0 && i < REGISTERS ? registers[i] : 0;
  }

  public int pc() {
    return programCounter;
  }

  public int shows() {
    return showCount;
  }

  public int shown(int k) {
    if (k < 0 || k >= KEPT_SHOWS || k >= showCount) {
      return 0;
    }
    return keptShows[(showCount - 1 - k) & KEPT_MASK];
  }

  private static boolean isAddress(int address) {
    return address >= 0 && address < WORDS;
  }

  private static boolean isPage(int page) {
    return page >= 0 && page < PAGES;
  }

  private static boolean hasPage(int pages, int page) {
    return (pages >> page & 1) != 0;
  }

  private int copyFirstWaiting() {
    for (int page = 0; page < PAGES; page++) {
      if (hasPage(waitingPages, page)) {
        copyPage(page);
        waitingPages &= ~(1 << page);
        return page;
      }
    }
    return NO_COPY;
  }

  private void copyPage(int page) {
    int first = page << PAGE_SHIFT;
    for (int i = 0; i < PAGE_WORDS; i++) {
      int address = (first + i) & ADDRESS_MASK;
      destinationWords[address] = sourceWords[address];
    }
  }

  private int endRound() {
    waitingPages = dirtyPages;
    if (Integer.bitCount(dirtyPages) <= dirtyThreshold || roundNow == roundLimit) {
      // The dirty pages are kept: they are what dirty() tells from here on.
      phaseNow = STOPPED;
      return GUEST_STOPPED;
    }
    dirtyPages = 0;
    roundNow++;
    return NEXT_ROUND;
  }

  private void guestStep() {
    int w = readWord(programCounter);
    int a = w >> 3 & 3;
    int b = w >> 5 & 3;
    int k = w >> 7 & 127;
    int next = programCounter + 1;
    switch (w & 7) {
      case 0:
        next = programCounter;
        break;
      case 1:
        registers[a] = k;
        break;
      case 2:
        registers[a] = readWord(registers[b] + k);
        break;
      case 3:
        writeWord(registers[b] + k, registers[a]);
        break;
      case 4:
        registers[a] = registers[a] + registers[b];
        break;
      case 5:
        registers[a] = registers[a] - registers[b];
        break;
      case 6:
        next = registers[a] != 0 ? k : next;
        break;
      default:
        show(registers[a]);
        break;
    }
    programCounter = next & ADDRESS_MASK;
  }

  private int readWord(int place) {
    int address = place & ADDRESS_MASK;
    return phaseNow == MOVED ? destinationWords[address] : sourceWords[address];
  }

  private void writeWord(int place, int v) {
    int address = place & ADDRESS_MASK;
    if (phaseNow == MOVED) {
      destinationWords[address] = v;
      return;
    }
    sourceWords[address] = v;
    if (phaseNow == COPYING) {
      dirtyPages |= 1 << (address >> PAGE_SHIFT);
    }
  }

  private void show(int v) {
    keptShows[showCount & KEPT_MASK] = v;
    showCount++;
  }
}
