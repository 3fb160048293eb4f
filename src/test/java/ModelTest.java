import java.math.BigInteger;
import java.util.ArrayList;
import java.util.List;

/** Runs of calls on an object and on the model beside it, which must answer the same; none has over 512 calls. */
public final class ModelTest {
  private static final Due due = new Due("ModelTest");
  private static final int[] SEEN = new int[8];
  private static long state = 20261115;

  private RunRows x = new RunRows();
  private Model m = new Model();
  private int calls = 0;
  private String run;

  private ModelTest(String run) {
    this.run = run;
  }

  public static void main(String[] args) {
    for (int k = 0; k < 4000; k++) new ModelTest("read " + k).readSomething();
    for (int k = 0; k < 2000; k++) new ModelTest("there and back " + k).thereAndBack();
    for (int k = 0; k < 1500; k++) new ModelTest("any calls " + k).anyCalls();
    for (int w = 0; w <= 32; w++) everyWindow(w);
    // Inputs that never bring a fault would say nothing about it.
    for (int fault = 0; fault <= 6; fault++) due.is("fault " + fault + " was seen often", SEEN[fault] > 100, true);
    due.end();
  }

  // A counted source, so that every run of this test is the same.
  private static int below(int bound) {
    state = state * 6364136223846793005L + 1442695040888963407L;
    return (int) ((state >>> 33) % bound);
  }

  private static int anyInt() {
    return below(65536) << 16 | below(65536);
  }

  private static long number(int width) {
    if (width == 0) return 0;
    long all = (1L << width) - 1;
    int kind = below(4);
    return kind == 0 ? all : kind == 1 ? below(2) : Integer.toUnsignedLong(anyInt()) & all;
  }

  // ---- the calls, on both

  private void feed(int a, int b, int c, int d, int e) {
    calls++;
    due.is(run + ": feed", x.feed(a, b, c, d, e), m.feed(a, b, c, d, e));
  }

  private void end(int n) {
    calls++;
    due.is(run + ": end(" + n + ")", x.end(n), m.end(n));
  }

  private void width(int w) {
    calls++;
    due.is(run + ": width(" + w + ")", x.width(w), m.width(w));
  }

  private void add(int v, int n) {
    calls++;
    due.is(run + ": add(" + v + ", " + n + ")", x.add(v, n), m.add(v, n));
  }

  private void clear() {
    calls++;
    x.clear();
    m.clear();
  }

  private int encode() {
    calls++;
    int want = m.encode();
    due.is(run + ": encode()", x.encode(), want);
    return want;
  }

  private int decode(int n) {
    calls++;
    int want = m.decode(n);
    due.is(run + ": decode(" + n + ")", x.decode(n), want);
    if (want >= 0) SEEN[want]++;
    return want;
  }

  private void turn() {
    calls++;
    due.is(run + ": turn()", x.turn(), m.turn());
  }

  private void size() {
    calls++;
    due.is(run + ": size()", x.size(), m.size());
  }

  private void value(int k) {
    calls++;
    due.is(run + ": value(" + k + ")", x.value(k), m.value(k));
  }

  private void output(int k) {
    calls++;
    due.is(run + ": output(" + k + ")", x.output(k), m.output(k));
  }

  // ---- runs

  private void readSomething() {
    int w = below(33);
    width(w);
    add(anyInt(), 1 + below(3));
    List<Integer> bytes = new ArrayList<>();
    int n = someRuns(bytes, w);
    if (below(4) != 0) spoil(bytes);
    putIn(bytes);
    decode(n);
    look(60);
    decode(Math.max(0, n - 9 + below(18)));
    look(60);
  }

  /** Runs as the document allows them, not only as they are WRITTEN; answers how many numbers they hold. */
  private static int someRuns(List<Integer> bytes, int w) {
    int n = 0;
    for (int runs = below(6); runs >= 0; runs--) {
      if (below(2) == 0) {
        int times = 1 + below(below(8) == 0 ? 600 : 12);
        Model.varint(bytes, BigInteger.valueOf(times * 2L));
        Model.one(bytes, w, number(w));
        n += times;
      } else {
        int last = runs == 0 ? below(8) : 0;
        int many = 8 * (1 + below(below(8) == 0 ? 70 : 3)) - last;
        List<Long> numbers = new ArrayList<>();
        for (int k = 0; k < many; k++) numbers.add(number(w));
        Model.varint(bytes, BigInteger.valueOf((many + 7) / 8 * 2L + 1));
        Model.groups(bytes, w, numbers);
        n += many;
      }
    }
    return n;
  }

  private static void spoil(List<Integer> bytes) {
    int at = below(bytes.size());
    switch (below(7)) {
      case 0 -> bytes.set(at, below(256));
      case 1 -> bytes.set(at, bytes.get(at) ^ 1 << below(8));
      case 2 -> bytes.remove(at);
      case 3 -> bytes.add(at, below(256));
      case 4 -> bytes.subList(at, bytes.size()).clear();
      case 5 -> bytes.add(below(3));
      default -> longHead(bytes);
    }
  }

  private static void longHead(List<Integer> bytes) {
    for (int many = 7 + below(5); many > 0; many--) bytes.add(0, 128 + below(128));
    if (below(2) == 0) bytes.set(below(Math.min(12, bytes.size())), below(4));
  }

  private void putIn(List<Integer> bytes) {
    for (int from = 0; from < bytes.size() && calls < 380; from += 20) {
      int[] word = new int[5];
      for (int k = 0; k < 20 && from + k < bytes.size(); k++) word[k / 4] |= bytes.get(from + k) << 24 - k % 4 * 8;
      feed(word[0], word[1], word[2], word[3], word[4]);
    }
    end(bytes.size());
  }

  private void thereAndBack() {
    int w = below(33);
    width(w);
    for (int k = below(60); k >= 0; k--) add((int) number(w), 1 + below(below(3) == 0 ? 20 : 3));
    int n = m.size();
    encode();
    for (int k = 0; k < 60; k++) output(k);
    turn();
    clear();
    due.is(run + ": what was written is read", decode(n), 0);
    look(100);
    encode();
    for (int k = 0; k < 60; k++) output(below(2000));
  }

  private void look(int many) {
    size();
    for (int k = 0; k < many; k++) value(k < many / 2 ? k : below(m.size() + 2));
    value(m.size() - 1);
  }

  private void anyCalls() {
    for (int k = 0; k < 512; k++) {
      switch (below(16)) {
        case 0, 1, 2 -> feed(anyByte(), below(3) == 0 ? anyInt() : 0, 0, 0, 0);
        case 3 -> end(below(24) - 1);
        case 4 -> width(below(36) - 2);
        case 5, 6 -> add((int) number(below(33)), below(12) - 1);
        case 7 -> add(below(2), below(5000));
        case 8 -> { if (below(4) == 0) clear(); }
        case 9 -> encode();
        case 10 -> decode(below(20) - 1);
        case 11 -> decode(m.size());
        case 12 -> turn();
        case 13 -> size();
        case 14 -> value(below(4200) - 50);
        default -> output(below(200) - 2);
      }
    }
  }

  private static int anyByte() {
    return below(24) << 24 | below(4) << 16 | below(4) << 8 | below(4);
  }

  /** A full row of every WIDTH, looked at in windows by objects that go the same way, to the last byte. */
  private static void everyWindow(int w) {
    long before = state;
    int bytes = 1;
    for (int from = 0; from < bytes; from += 300) {
      state = before;
      ModelTest t = new ModelTest("full row of " + w + ", from " + from);
      t.width(Math.min(w, 1));
      List<Integer> in = new ArrayList<>();
      List<Long> numbers = new ArrayList<>();
      for (int k = 0; k < 4096; k++) numbers.add(k % 200 < 40 ? (k / 200 & 1L) : number(Math.min(w, 1)));
      if (w == 0) numbers.replaceAll(number -> 0L);
      Model.varint(in, BigInteger.valueOf(1025));
      Model.groups(in, Math.min(w, 1), numbers);
      t.putIn(in);
      t.decode(4096);
      t.width(w);
      bytes = t.encode();
      for (int k = from; k < from + 300; k++) t.output(k);
      for (int k = 0; k < 100; k++) t.value(below(4096));
    }
  }
}
