/** The class and the model side by side: each call is made on both, and their answers are compared. */
final class Pair {
  final Migrator x = new Migrator();
  final Model model = new Model();
  private final Due due;

  Pair(Due due) {
    this.due = due;
  }

  void poke(int address, int v) {
    due.is("poke(" + address + ", " + v + ")", x.poke(address, v), model.poke(address, v));
  }

  void begin(int threshold, int limit) {
    due.is("begin(" + threshold + ", " + limit + ")", x.begin(threshold, limit), model.begin(threshold, limit));
  }

  void run(int n) {
    due.is("run(" + n + ")", x.run(n), model.run(n));
  }

  void copy() {
    due.is("copy()", x.copy(), model.copy());
  }

  void compareState(String when) {
    due.same("the state " + when, Picture.of(x).text(), model.picture().text());
  }
}
