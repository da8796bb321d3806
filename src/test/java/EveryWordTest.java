/** One guest step by every word (op, a, b and k), in every phase, as the model makes it. */
public final class EveryWordTest {
  private static final int WORDS = 1 << 14;

  public static void main(String[] args) {
    Due due = new Due();
    for (int word = 0; word < WORDS; word++) {
      // The bits from 14 on mean nothing, so they are different from word to word.
      int high = word * 0x9E3779B9 & -WORDS;
      for (int phase = 0; phase <= 3; phase++) {
        step(due, phase, (word & 1 << 7 + phase) == 0 ? 20 : 63, word | high);
      }
    }
    due.end();
  }

  private static void step(Due due, int phase, int place, int word) {
    due.at("the word " + word + " at " + place + " in phase " + phase);
    Pair pair = OneStep.before(due, phase, place, word, Integer.MAX_VALUE, -70, 0, 130);
    pair.run(1);
    pair.compareState("after the step");
  }
}
