/** A guest that stands before one word, with registers of one's choice, in a phase of one's choice. */
final class OneStep {
  /** Before the word stand four steps that load the registers from here on. */
  private static final int VALUES = 40;
  private static final int STEPS_BEFORE = 6;

  private OneStep() {
  }

  /** The place is 20, 62 or 63: there the steps before it and the values do not meet. */
  static Pair before(Due due, int phase, int place, int word, int... registers) {
    Pair pair = new Pair(due);
    int[] words = words(place, word, registers);
    for (int address = 0; address < 64; address++) {
      pair.poke(address, words[address]);
    }
    if (phase > 0) {
      pair.begin(8, 20);
    }
    if (phase < 3) {
      pair.run(STEPS_BEFORE);
    }
    for (int i = 0; i < 10 && pair.model.phase != phase; i++) {
      pair.copy();
    }
    if (phase == 3) {
      pair.run(STEPS_BEFORE);
    }
    return pair;
  }

  /** What stands at an address that no step and no register needs. */
  static int filler(int address) {
    return 7000 + address;
  }

  private static int[] words(int place, int word, int... registers) {
    int[] words = new int[64];
    for (int address = 0; address < 64; address++) {
      words[address] = filler(address);
    }
    words[0] = Guest.set(1, 1);
    words[1] = Guest.jump(1, place - 4);
    for (int i = 0; i < 4; i++) {
      words[place - 4 + i] = Guest.load(i, 3, VALUES + i);
      words[VALUES + i] = registers[i];
    }
    words[place] = word;
    return words;
  }
}
