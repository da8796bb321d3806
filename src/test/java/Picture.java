/** All that the questions tell of a guest at one moment. */
final class Picture {
  int phase;
  int round;
  int pc;
  int shows;
  /** The numbers of the pages, as digits. */
  String dirty = "";
  String waiting = "";
  final int[] registers = new int[4];
  /** One more than is kept, so that shown(8) is looked at too. */
  final int[] shown = new int[9];
  final int[] source = new int[64];
  final int[] destination = new int[64];

  /** Takes 161 of the 512 calls that an object is for. */
  static Picture of(Migrator x) {
    Picture p = new Picture();
    p.phase = x.phase();
    p.round = x.round();
    p.pc = x.pc();
    p.shows = x.shows();
    p.dirty = Guest.dirty(x);
    p.waiting = Guest.waiting(x);
    for (int i = 0; i < 4; i++) {
      p.registers[i] = x.register(i);
    }
    for (int k = 0; k < 9; k++) {
      p.shown[k] = x.shown(k);
    }
    for (int address = 0; address < 64; address++) {
      p.source[address] = x.source(address);
      p.destination[address] = x.destination(address);
    }
    return p;
  }

  String text() {
    StringBuilder s = new StringBuilder();
    s.append("phase ").append(phase).append(" round ").append(round);
    s.append(" dirty ").append(dirty).append(" waits ").append(waiting);
    s.append(" pc ").append(pc).append(" shows ").append(shows);
    append(s, " shown", shown);
    append(s, " registers", registers);
    append(s, " source", source);
    append(s, " destination", destination);
    return s.toString();
  }

  private static void append(StringBuilder s, String name, int[] numbers) {
    s.append(name);
    for (int number : numbers) {
      s.append(' ').append(number);
    }
  }
}
