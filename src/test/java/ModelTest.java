import java.util.Random;

/** Calls by chance (of fixed seeds), answered by the class and by a model written after the document. */
public final class ModelTest {
  private static final int RUNS = 4000;
  /** With the pokes before and the picture of the state after them, an object stays below 512 calls. */
  private static final int CALLS = 280;

  private final Due due;
  private final Random random;
  private final Pair pair;

  private ModelTest(Due due, int seed) {
    this.due = due;
    this.random = new Random(seed);
    this.pair = new Pair(due);
  }

  public static void main(String[] args) {
    Due due = new Due();
    int[] ended = new int[4];
    for (int seed = 0; seed < RUNS; seed++) {
      due.at("seed " + seed);
      ended[new ModelTest(due, seed).calls()]++;
    }
    due.at("all runs");
    due.is("runs ended in phase 3, more than a third", ended[3] > RUNS / 3, true);
    due.is("runs ended in phase 1", ended[1] > 0, true);
    due.end();
  }

  private int calls() {
    for (int address = 0; address < 64; address++) {
      pair.poke(address, Programs.word(random));
    }
    for (int call = 0; call < CALLS; call++) {
      oneCall();
    }
    pair.compareState("at last");
    return pair.model.phase;
  }

  private void oneCall() {
    int kind = random.nextInt(100);
    if (kind < 45) {
      pair.copy();
    } else if (kind < 75) {
      pair.run(number(8, 1000));
    } else if (kind < 80) {
      pair.poke(number(64, 64), Programs.word(random));
    } else if (kind < 82) {
      pair.begin(number(9, 9), number(21, 21));
    } else {
      question();
    }
  }

  private void question() {
    Migrator x = pair.x;
    Model model = pair.model;
    int i = number(10, 64);
    switch (random.nextInt(10)) {
      case 0 -> due.is("phase()", x.phase(), model.phase);
      case 1 -> due.is("round()", x.round(), model.round);
      case 2 -> due.is("dirty(" + i + ")", x.dirty(i), model.isDirty(i));
      case 3 -> due.is("waits(" + i + ")", x.waits(i), model.isWaiting(i));
      case 4 -> due.is("source(" + i + ")", x.source(i), model.source.getOrDefault(i, 0));
      case 5 -> due.is("destination(" + i + ")", x.destination(i), model.destination.getOrDefault(i, 0));
      case 6 -> due.is("register(" + i + ")", x.register(i), model.register(i));
      case 7 -> due.is("pc()", x.pc(), model.pc);
      case 8 -> due.is("shows()", x.shows(), model.shows.size());
      default -> due.is("shown(" + i + ")", x.shown(i), model.shown(i));
    }
  }

  /** Mostly below the bound, sometimes near the edge, sometimes anything. */
  private int number(int bound, int edge) {
    int kind = random.nextInt(12);
    if (kind == 0) {
      return edge - 1 + random.nextInt(3);
    }
    if (kind == 1) {
      return random.nextInt(3) - 2;
    }
    return kind == 2 ? random.nextInt() : random.nextInt(bound);
  }
}
