/** Words for the guest, pictures of its state, and ways to bring a Migrator to a phase. */
final class Guest {
  private Guest() {
  }

  static int stay() {
    return 0;
  }

  static int set(int a, int k) {
    return word(1, a, 0, k);
  }

  static int load(int a, int b, int k) {
    return word(2, a, b, k);
  }

  static int store(int a, int b, int k) {
    return word(3, a, b, k);
  }

  static int add(int a, int b) {
    return word(4, a, b, 0);
  }

  static int subtract(int a, int b) {
    return word(5, a, b, 0);
  }

  static int jump(int a, int k) {
    return word(6, a, 0, k);
  }

  static int show(int a) {
    return word(7, a, 0, 0);
  }

  private static int word(int op, int a, int b, int k) {
    return op | a << 3 | b << 5 | k << 7;
  }

  /** A new guest with these words from address 0 on. */
  static Migrator with(int... words) {
    Migrator x = new Migrator();
    for (int i = 0; i < words.length; i++) {
      x.poke(i, words[i]);
    }
    return x;
  }

  /** Copies until the phase is reached; while the guest does not run, two rounds and a stop are enough. */
  static void copyUntil(Migrator x, int phase) {
    for (int i = 0; i < 30 && x.phase() != phase; i++) {
      x.copy();
    }
  }

  static void copyWaiting(Migrator x) {
    for (int p = 0; p < 8; p++) {
      if (x.waits(p)) {
        x.copy();
      }
    }
  }

  /** The numbers of the dirty pages, as digits. */
  static String dirty(Migrator x) {
    StringBuilder pages = new StringBuilder();
    for (int p = 0; p < 8; p++) {
      if (x.dirty(p)) {
        pages.append(p);
      }
    }
    return pages.toString();
  }

  /** The numbers of the waiting pages, as digits. */
  static String waiting(Migrator x) {
    StringBuilder pages = new StringBuilder();
    for (int p = 0; p < 8; p++) {
      if (x.waits(p)) {
        pages.append(p);
      }
    }
    return pages.toString();
  }

  /** What the guest itself is: registers, PC and shows. */
  static String inside(Migrator x) {
    StringBuilder s = new StringBuilder("pc ").append(x.pc()).append(" registers");
    for (int i = 0; i < 4; i++) {
      s.append(' ').append(x.register(i));
    }
    s.append(" shows ").append(x.shows()).append(':');
    for (int k = 0; k < 9; k++) {
      s.append(' ').append(x.shown(k));
    }
    return s.toString();
  }

  static String sourceMemory(Migrator x) {
    StringBuilder s = new StringBuilder();
    for (int i = 0; i < 64; i++) {
      s.append(' ').append(x.source(i));
    }
    return s.toString();
  }

  static String destinationMemory(Migrator x) {
    StringBuilder s = new StringBuilder();
    for (int i = 0; i < 64; i++) {
      s.append(' ').append(x.destination(i));
    }
    return s.toString();
  }

  /** Everything that the questions tell; it takes 161 of the 512 calls that an object is for. */
  static String all(Migrator x) {
    return Picture.of(x).text();
  }
}
