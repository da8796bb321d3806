import java.util.Random;

/** Programs by chance (of a fixed seed) that mostly keep going. */
final class Programs {
  private Programs() {
  }

  static void poke(Random random, Migrator... guests) {
    for (int address = 0; address < 64; address++) {
      int word = word(random);
      for (Migrator guest : guests) {
        guest.poke(address, word);
      }
    }
  }

  static int word(Random random) {
    int word = random.nextInt();
    // A guest that meets op 0 does nothing any more, so few words have it.
    boolean stays = (word & 7) == 0;
    return stays && random.nextInt(20) != 0 ? word | 1 + random.nextInt(7) : word;
  }
}
