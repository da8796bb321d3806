/**
 * A guest with nothing empty: every word, register and show differs from 0, and from phase 1 on every page is
 * dirty, so that an answer from beyond a limit does not look like the 0 or false that is due there.
 */
final class Full {
  /** Eight dirty pages are one more than the threshold, so that the limit ends the rounds. */
  static final int THRESHOLD = 7;
  static final int LIMIT = 3;
  /** The word of each page that the guest writes; none of them is one of its writing steps. */
  private static final int[] WRITTEN = {4, 8, 20, 28, 36, 44, 52, 60};
  private static final int FIRST_WRITE = 12;
  /** The guest goes round its memory in 64 steps, so that this many write every page. */
  private static final int ROUND_ABOUT = 100;

  private Full() {
  }

  /** In phase 1 it is in round 2, so that its words are at the destination too; in 1 and 2 all pages wait. */
  static Migrator inPhase(int phase) {
    Migrator x = atHome();
    x.run(FIRST_WRITE);
    if (phase > 0) {
      x.begin(THRESHOLD, LIMIT);
    }
    int rounds = phase > 1 ? LIMIT : phase;
    for (int round = 1; round <= rounds; round++) {
      x.run(ROUND_ABOUT);
      copyEight(x);
      x.copy();
    }
    if (phase == 3) {
      copyEight(x);
      x.copy();
    }
    x.run(ROUND_ABOUT);
    return x;
  }

  /** Its words are there, and no step is made yet. */
  static Migrator atHome() {
    Migrator x = new Migrator();
    for (int address = 0; address < 64; address++) {
      x.poke(address, word(address));
    }
    return x;
  }

  /** The word that stands at an address at first; the guest changes those of WRITTEN alone. */
  static int word(int address) {
    if (address < 4) {
      int[] values = {64, Guest.show(1), 99, 77};
      return Guest.set(address, values[address]);
    }
    if (address < FIRST_WRITE) {
      return Guest.show(address & 3);
    }
    if (address < FIRST_WRITE + WRITTEN.length) {
      return Guest.store(1, 0, WRITTEN[address - FIRST_WRITE]);
    }
    return Guest.add(2, 1) | address << 14;
  }

  static void copyEight(Migrator x) {
    for (int i = 0; i < 8; i++) {
      x.copy();
    }
  }

  /** What it answers from here on, over the rounds, the stop and the move: at most 73 calls. */
  static String rest(Migrator x) {
    StringBuilder s = new StringBuilder();
    // Only at home: later a begin that is wrongly taken would hide one that was wrongly taken before.
    if (x.phase() == 0) {
      s.append("begin ").append(x.begin(THRESHOLD, LIMIT));
    }
    for (int i = 0; i < 28; i++) {
      s.append(" run ").append(x.run(ROUND_ABOUT)).append(" copy ").append(x.copy());
    }
    return s.append(' ').append(Guest.inside(x)).toString();
  }
}
