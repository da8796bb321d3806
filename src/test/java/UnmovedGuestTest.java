import java.util.Random;

/** The guest can't tell: it does what a guest does that makes the same steps and is never moved. */
public final class UnmovedGuestTest {
  private static final int RUNS = 3000;

  public static void main(String[] args) {
    Due due = new Due();
    int moved = 0;
    for (int seed = 0; seed < RUNS; seed++) {
      due.at("run " + seed);
      moved += compare(due, new Random(seed)) ? 1 : 0;
    }
    due.at("all runs");
    due.is("more than half of the guests were moved", moved > RUNS / 2, true);
    for (int threshold : new int[] {0, 1, 7, 8}) {
      for (int limit : new int[] {1, 2, 10}) {
        for (int steps = 0; steps <= 65; steps++) {
          due.at("threshold " + threshold + ", limit " + limit + ", " + steps + " steps after each copy");
          steady(due, threshold, limit, steps);
        }
      }
    }
    due.end();
  }

  /** From no step at all between the copies to more than the guest needs to write every page. */
  private static void steady(Due due, int threshold, int limit, int steps) {
    Migrator moving = Full.atHome();
    Migrator unmoved = Full.atHome();
    moving.begin(threshold, limit);
    int answer = -1;
    // Ten rounds and the stop, with nine copies each, are enough.
    for (int i = 0; i < 99 && answer != 34; i++) {
      unmoved.run(moving.run(steps));
      answer = moving.copy();
    }
    due.is("the last copy()", answer, 34);
    unmoved.run(moving.run(70));
    due.same("the guest", Guest.inside(moving), Guest.inside(unmoved));
    due.same("its memory", Guest.destinationMemory(moving), Guest.sourceMemory(unmoved));
  }

  /** Whether the guest came to the other host. */
  private static boolean compare(Due due, Random random) {
    Migrator moving = new Migrator();
    Migrator unmoved = new Migrator();
    Programs.poke(random, moving, unmoved);
    unmoved.run(moving.run(random.nextInt(20)));
    moving.begin(random.nextInt(9), 1 + random.nextInt(20));
    for (int i = 0; i < 40; i++) {
      unmoved.run(moving.run(random.nextInt(12)));
      for (int c = random.nextInt(6); c > 0; c--) {
        moving.copy();
      }
    }
    due.same("the guest on its way", Guest.inside(moving), Guest.inside(unmoved));
    Guest.copyUntil(moving, 3);
    unmoved.run(moving.run(50));
    due.same("the guest at last", Guest.inside(moving), Guest.inside(unmoved));
    due.same("its memory", Guest.destinationMemory(moving), Guest.sourceMemory(unmoved));
    return moving.phase() == 3;
  }
}
