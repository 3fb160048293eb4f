import java.util.function.Supplier;

/**
 * All that calls can tell of an object's state, a text for each part of it. Asking may change an object, so each
 * question is asked of a new one that was brought to the same state; none has over 512 calls.
 */
final class Told {
  private static final int WINDOW = 40;
  private static final int[] WIDTHS = {0, 1, 3, 7, 8, 9, 32};
  private static final int[] COUNTS = {0, 1, 2, 3, 4, 5, 7, 8, 9, 12, 16, 17, 24, 2088, 4096};

  enum Part { ROW, OUTPUT, WIDTH, INPUT, TAPE }

  private Told() {
  }

  static String of(Part part, Supplier<RunRows> made) {
    return switch (part) {
      case ROW -> row(made);
      case OUTPUT -> output(made);
      case WIDTH -> width(made);
      case INPUT -> input(made);
      case TAPE -> tape(made);
    };
  }

  private static String row(Supplier<RunRows> made) {
    int size = made.get().size();
    StringBuilder told = new StringBuilder("size " + size);
    for (int from = -1; from <= size + 1; from += WINDOW) {
      RunRows x = made.get();
      for (int k = from; k < from + WINDOW; k++) told.append(' ').append(x.value(k));
    }
    return told.toString();
  }

  private static String output(Supplier<RunRows> made) {
    StringBuilder told = new StringBuilder();
    for (int from = 0; from < 16500; from += WINDOW) {
      RunRows x = made.get();
      for (int k = from; k < from + WINDOW; k++) told.append(' ').append(x.output(k));
      if (x.output(from) == RunRows.NONE) break;
    }
    return told.toString();
  }

  private static String width(Supplier<RunRows> made) {
    StringBuilder told = new StringBuilder();
    for (int bit = 0; bit < 32; bit++) {
      RunRows x = made.get();
      x.clear();
      x.add(1 << bit, 8);
      told.append(' ').append(x.encode());
    }
    return told.toString();
  }

  private static String input(Supplier<RunRows> made) {
    StringBuilder told = new StringBuilder();
    for (int w : WIDTHS) {
      for (int n : COUNTS) told.append(read(made.get(), w, n));
    }
    return told.toString();
  }

  private static String read(RunRows x, int w, int n) {
    x.width(w);
    int fault = x.decode(n);
    StringBuilder told = new StringBuilder().append(' ').append(fault);
    if (fault == 0) {
      told.append(" (").append(x.size());
      for (int k = 0; k < WINDOW; k++) told.append(' ').append(x.value(k));
      told.append(')');
    }
    return told.toString();
  }

  private static String tape(Supplier<RunRows> made) {
    StringBuilder told = new StringBuilder();
    for (int n = -1; n <= 8192; n += n == 41 ? 8178 - 41 : 1) {
      RunRows x = made.get();
      boolean cut = x.end(n);
      told.append(' ').append(cut);
      if (cut) told.append(read(x, 8, 3)).append(read(x, 8, n - 2 & 4095)).append(read(x, 8, n - 1 & 4095));
    }
    RunRows x = made.get();
    int feeds = 0;
    while (feeds < 50 && x.feed(0, 0, 0, 0, 0)) feeds++;
    return told.append(" room for ").append(feeds).toString();
  }
}
