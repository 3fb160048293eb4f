import java.util.Arrays;

/** Counts the answers of a test and prints those that are not the ones due. */
final class Due {
  private static final long MOST_MILLISECONDS = 300_000;

  private final String test;
  private int right = 0;
  private int wrong = 0;

  Due(String test) {
    this.test = test;
    Thread watch = new Thread(this::failIfEndless);
    watch.setDaemon(true);
    watch.start();
  }

  // A call that never ends must fail the test too, not hold it up for ever; a test takes some seconds.
  private void failIfEndless() {
    try {
      Thread.sleep(MOST_MILLISECONDS);
      System.out.println(test + ": did not end");
    } catch (InterruptedException e) {
      System.out.println(test + ": was broken off");
    }
    Runtime.getRuntime().halt(1);
  }

  void is(String what, long got, long want) {
    if (got == want) {
      right++;
    } else {
      wrong++;
      System.out.println(test + ": " + what + " answered " + got + ", due is " + want);
    }
  }

  void is(String what, boolean got, boolean want) {
    is(what, got ? 1L : 0L, want ? 1L : 0L);
  }

  void is(String what, Object got, Object want) {
    if (!got.equals(want)) {
      System.out.println(test + ": " + what + ": " + got + ", due is " + want);
    }
    is(what, got.equals(want), true);
  }

  /** The row is WRITTEN, as these bytes. */
  void written(String what, RunRows x, int... bytes) {
    is(what + ", how many", x.encode(), bytes.length);
    for (int k = 0; k < bytes.length; k++) {
      is(what + ", byte " + k, x.output(k), bytes[k]);
    }
    is(what + ", behind the last", x.output(bytes.length), RunRows.NONE);
  }

  /** The row holds these numbers. */
  void row(String what, RunRows x, int... numbers) {
    is(what + ", size", x.size(), numbers.length);
    for (int k = 0; k < numbers.length; k++) {
      is(what + ", value " + k, x.value(k), numbers[k]);
    }
    is(what + ", behind the last", x.value(numbers.length), 0);
  }

  /** These bytes are READ as n numbers by a new object, with this answer. */
  RunRows read(String what, int w, int n, int want, int... bytes) {
    RunRows x = new RunRows();
    x.width(w);
    putIn(x, bytes);
    is(what, x.decode(n), want);
    return x;
  }

  /** These bytes become the INPUT, by way of the tape, which must be empty. */
  void putIn(RunRows x, int... bytes) {
    feedAll(x, bytes);
    is("end", x.end(bytes.length), true);
  }

  /** These bytes come onto the tape, and some of 0 behind them to make full twenties. */
  void feedAll(RunRows x, int... bytes) {
    int[] words = new int[(bytes.length + 19) / 20 * 5];
    for (int k = 0; k < bytes.length; k++) {
      words[k / 4] |= bytes[k] << 24 - 8 * (k % 4);
    }
    for (int k = 0; k < words.length; k += 5) {
      is("feed", x.feed(words[k], words[k + 1], words[k + 2], words[k + 3], words[k + 4]), true);
    }
  }

  /** GROUPS of WIDTH 1, up to 8191 of them, with 1 and 0 in turn. */
  static int[] alternating(int groups) {
    int head = groups * 2 + 1;
    int[] bytes = new int[groups + (head < 128 ? 1 : 2)];
    Arrays.fill(bytes, 0x55);
    bytes[0] = head < 128 ? head : head & 127 | 128;
    if (head >= 128) {
      bytes[1] = head >> 7;
    }
    return bytes;
  }

  void end() {
    System.out.println(right + " passed, " + wrong + " failed");
    if (wrong != 0) {
      System.exit(1);
    }
  }
}
