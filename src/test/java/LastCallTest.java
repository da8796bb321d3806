/** "An object is used for at most 512 calls": the 512th is answered like any other. */
public final class LastCallTest {
  private static final int CALLS = 512;

  private static final Due due = new Due();

  public static void main(String[] args) {
    mostStepsAndShows();
    mostRefusedCalls();
    lateBegin();
    latePoke();
    lateMove();
    roundsOneAfterTheOther();
    due.end();
  }

  private static void mostStepsAndShows() {
    due.at("508 times run(1000)");
    for (int k = 0; k <= 7; k++) {
      due.is("shown(" + k + "), the last call", shown().shown(k), 1);
    }
    due.is("shows(), the last call", shown().shows(), 254000);
    due.is("pc(), the last call", shown().pc(), 2);
    due.is("register(1), the last call", shown().register(1), 1);
    due.is("run(1000), the last call", shown().run(1000), 1000);
  }

  /** After 511 calls: three pokes and 508 runs, whose first step sets and of whose others every second shows. */
  private static Migrator shown() {
    Migrator x = Guest.with(Guest.set(1, 1), Guest.show(1), Guest.jump(1, 1));
    for (int call = 4; call < CALLS; call++) {
      due.is("run(1000)", x.run(1000), 1000);
    }
    return x;
  }

  private static void mostRefusedCalls() {
    due.at("511 refused calls");
    Migrator x = new Migrator();
    for (int call = 1; call < CALLS; call++) {
      refused(x, call);
    }
    due.is("begin(8, 20), the last call", x.begin(8, 20), true);
  }

  private static void refused(Migrator x, int call) {
    switch (call % 4) {
      case 0 -> due.is("poke(64, 1)", x.poke(64, 1), false);
      case 1 -> due.is("begin(9, 20)", x.begin(9, 20), false);
      case 2 -> due.is("run(1001)", x.run(1001), 0);
      default -> due.is("copy()", x.copy(), -1);
    }
  }

  private static void lateBegin() {
    due.at("begin after 490 steps at home");
    Migrator x = Full.atHome();
    for (int call = 65; call <= 490; call++) {
      due.is("run(1)", x.run(1), 1);
    }
    due.is("begin(0, 1)", x.begin(0, 1), true);
    for (int page = 0; page < 8; page++) {
      due.is("copy()", x.copy(), page);
    }
    due.is("copy()", x.copy(), 33);
    due.is("copy()", x.copy(), 34);
    for (int call = 502; call < CALLS; call++) {
      due.is("run(1000)", x.run(1000), 1000);
    }
    due.is("destination(63), the last call", x.destination(63), Full.word(63));
  }

  private static void latePoke() {
    due.at("512 pokes");
    Migrator x = new Migrator();
    for (int call = 1; call < CALLS; call++) {
      due.is("poke(" + call % 64 + ", " + call + ")", x.poke(call % 64, call), true);
    }
    due.is("source(63), the last call", x.source(63), CALLS - 1);
  }

  private static void lateMove() {
    due.at("the move is the last call");
    Migrator x = new Migrator();
    x.begin(0, 1);
    Full.copyEight(x);
    due.is("copy()", x.copy(), 33);
    for (int call = 11; call < CALLS; call++) {
      due.is("run(1000) in phase 2", x.run(1000), 0);
    }
    due.is("copy(), the last call", x.copy(), 34);
  }

  /** 64 pokes, begin, 20 rounds of 21 calls, then eight copies, the move and questions. */
  private static void roundsOneAfterTheOther() {
    due.at("20 rounds with all pages dirty");
    Migrator x = Full.atHome();
    due.is("begin(7, 20)", x.begin(7, 20), true);
    for (int round = 1; round <= 20; round++) {
      oneRound(x, round);
    }
    for (int page = 0; page < 8; page++) {
      due.is("copy() in phase 2", x.copy(), page);
    }
    due.is("copy()", x.copy(), 34);
    for (int call = 495; call < CALLS; call++) {
      due.is("round()", x.round(), 20);
    }
    due.is("dirty(7), the last call", x.dirty(7), true);
  }

  private static void oneRound(Migrator x, int round) {
    for (int page = 0; page < 8; page++) {
      due.is("run(1000)", x.run(1000), 1000);
      due.is("copy()", x.copy(), page);
    }
    for (int i = 0; i < 4; i++) {
      due.is("waits(" + 2 * i + ")", x.waits(2 * i), false);
    }
    due.is("copy() in round " + round, x.copy(), round < 20 ? 32 : 33);
  }
}
