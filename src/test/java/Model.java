import java.util.ArrayList;
import java.util.HashMap;
import java.util.List;
import java.util.Map;
import java.util.TreeSet;

/** The document's words once more, in sets, maps and lists, to compare the class with. */
final class Model {
  final Map<Integer, Integer> source = new HashMap<>();
  final Map<Integer, Integer> destination = new HashMap<>();
  final List<Integer> shows = new ArrayList<>();
  private final Map<Integer, Integer> registers = new HashMap<>();
  private TreeSet<Integer> dirty = new TreeSet<>();
  private TreeSet<Integer> waiting = new TreeSet<>();
  int pc = 0;
  int phase = 0;
  int round = 0;
  private int threshold;
  private int limit;

  boolean poke(int address, int v) {
    boolean taken = phase == 0 && 0 <= address && address <= 63;
    if (taken) {
      source.put(address, v);
    }
    return taken;
  }

  boolean begin(int newThreshold, int newLimit) {
    boolean numbersFit = 0 <= newThreshold && newThreshold <= 8 && 1 <= newLimit && newLimit <= 20;
    if (!numbersFit || phase != 0) {
      return false;
    }
    threshold = newThreshold;
    limit = newLimit;
    phase = 1;
    round = 1;
    for (int page = 0; page <= 7; page++) {
      waiting.add(page);
    }
    return true;
  }

  int run(int n) {
    int steps = phase == 2 || n < 0 || n > 1000 ? 0 : n;
    for (int i = 0; i < steps; i++) {
      step();
    }
    return steps;
  }

  private void step() {
    Map<Integer, Integer> memory = phase == 3 ? destination : source;
    int w = memory.getOrDefault(pc, 0);
    int op = w & 7;
    int a = (w >>> 3) % 4;
    int b = (w >>> 5) % 4;
    int k = (w >>> 7) % 128;
    int place = Math.floorMod(register(b) + k, 64);
    boolean jumps = op == 6 && register(a) != 0;
    if (op == 1) {
      registers.put(a, k);
    } else if (op == 2) {
      registers.put(a, memory.getOrDefault(place, 0));
    } else if (op == 3) {
      memory.put(place, register(a));
      if (phase == 1) {
        dirty.add(place / 8);
      }
    } else if (op == 4) {
      registers.put(a, register(a) + register(b));
    } else if (op == 5) {
      registers.put(a, register(a) - register(b));
    } else if (op == 7) {
      shows.add(register(a));
    }
    if (jumps) {
      pc = k % 64;
    } else if (op != 0) {
      pc = (pc + 1) % 64;
    }
  }

  int copy() {
    if (phase == 0 || phase == 3) {
      return -1;
    }
    if (!waiting.isEmpty()) {
      int page = waiting.pollFirst();
      for (int address = 8 * page; address < 8 * page + 8; address++) {
        destination.put(address, source.getOrDefault(address, 0));
      }
      return page;
    }
    if (phase == 2) {
      phase = 3;
      return 34;
    }
    waiting = new TreeSet<>(dirty);
    if (dirty.size() <= threshold || round == limit) {
      phase = 2;
      return 33;
    }
    dirty = new TreeSet<>();
    round = round + 1;
    return 32;
  }

  boolean isDirty(int page) {
    return dirty.contains(page);
  }

  boolean isWaiting(int page) {
    return waiting.contains(page);
  }

  int register(int i) {
    return registers.getOrDefault(i, 0);
  }

  int shown(int k) {
    return 0 <= k && k <= 7 && k < shows.size() ? shows.get(shows.size() - 1 - k) : 0;
  }

  Picture picture() {
    Picture p = new Picture();
    p.phase = phase;
    p.round = round;
    p.pc = pc;
    p.shows = shows.size();
    p.dirty = digits(dirty);
    p.waiting = digits(waiting);
    for (int i = 0; i < 4; i++) {
      p.registers[i] = register(i);
    }
    for (int k = 0; k < 9; k++) {
      p.shown[k] = shown(k);
    }
    for (int address = 0; address < 64; address++) {
      p.source[address] = source.getOrDefault(address, 0);
      p.destination[address] = destination.getOrDefault(address, 0);
    }
    return p;
  }

  private static String digits(TreeSet<Integer> pages) {
    StringBuilder s = new StringBuilder();
    for (int page : pages) {
      s.append(page);
    }
    return s.toString();
  }
}
