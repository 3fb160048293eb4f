import java.math.BigInteger;
import java.util.ArrayList;
import java.util.List;

/** The document's words told a second time, bit by bit and with no thought of speed, to compare RunRows with. */
final class Model {
  private List<Long> row = new ArrayList<>();
  private List<Integer> tape = new ArrayList<>();
  private List<Integer> input = new ArrayList<>();
  private List<Integer> output = new ArrayList<>();
  private int width = 0;

  boolean feed(int... numbers) {
    if (tape.size() + 20 > 8192) return false;
    for (int number : numbers) {
      for (int k = 3; k >= 0; k--) tape.add((number >> 8 * k) & 255);
    }
    return true;
  }

  boolean end(int n) {
    if (n < 0 || n > tape.size()) return false;
    input = new ArrayList<>(tape.subList(0, n));
    tape.clear();
    return true;
  }

  boolean width(int w) {
    if (w < 0 || w > 32) return false;
    width = w;
    return true;
  }

  boolean add(int v, int n) {
    if (n < 1 || n > 4096 || row.size() + n > 4096) return false;
    for (int k = 0; k < n; k++) row.add(Integer.toUnsignedLong(v));
    return true;
  }

  void clear() {
    row.clear();
  }

  boolean turn() {
    if (output.size() > 8192) return false;
    input = new ArrayList<>(output);
    return true;
  }

  int size() {
    return row.size();
  }

  int value(int k) {
    return k < 0 || k >= row.size() ? 0 : row.get(k).intValue();
  }

  int output(int k) {
    return k < 0 || k >= output.size() ? -1 : output.get(k);
  }

  int encode() {
    output.clear();
    for (long number : row) {
      if (BigInteger.valueOf(number).bitLength() > width) return -1;
    }
    int k = 0;
    while (k < row.size()) {
      if (beginsRun(k)) {
        int end = k;
        while (end < row.size() && row.get(end).equals(row.get(k))) end++;
        varint(output, BigInteger.valueOf(2L * (end - k)));
        one(output, width, row.get(k));
        k = end;
      } else {
        int end = k;
        while (end < row.size() && !beginsRun(end)) end += 8;
        varint(output, BigInteger.valueOf((end - k) / 8 * 2 + 1));
        groups(output, width, row.subList(k, Math.min(end, row.size())));
        k = end;
      }
    }
    return output.size();
  }

  private boolean beginsRun(int k) {
    for (int i = 0; i < 8; i++) {
      if (k + i >= row.size() || !row.get(k + i).equals(row.get(k))) return false;
    }
    return true;
  }

  static void varint(List<Integer> to, BigInteger h) {
    List<Integer> sevens = new ArrayList<>();
    for (BigInteger rest = h; rest.signum() > 0; rest = rest.shiftRight(7)) sevens.add(rest.intValue() & 127);
    if (sevens.isEmpty()) sevens.add(0);
    for (int k = 0; k < sevens.size(); k++) to.add(sevens.get(k) + (k < sevens.size() - 1 ? 128 : 0));
  }

  static void one(List<Integer> to, int width, long number) {
    for (int k = 0; k < (width + 7) / 8; k++) to.add((int) (number >> 8 * k) & 255);
  }

  static void groups(List<Integer> to, int width, List<Long> numbers) {
    for (int from = 0; from < numbers.size(); from += 8) {
      int[] group = new int[width];
      for (int k = 0; k < 8 && from + k < numbers.size(); k++) {
        for (int i = 0; i < width; i++) {
          int bit = width * k + i;
          if ((numbers.get(from + k) >> i & 1) == 1) group[bit / 8] |= 1 << bit % 8;
        }
      }
      for (int b : group) to.add(b);
    }
  }

  int decode(int n) {
    if (n < 0 || n > 4096) return -1;
    List<Long> read = new ArrayList<>();
    int at = 0;
    while (read.size() < n) {
      int length = varintLength(at);
      if (length < 0) return -length;
      BigInteger h = varintAt(at, length);
      at += length;
      if (h.compareTo(BigInteger.ONE) <= 0) return 3;
      boolean isOne = !h.testBit(0);
      BigInteger missing = BigInteger.valueOf(n - read.size());
      BigInteger times = h.shiftRight(1);
      BigInteger needed = isOne ? times : times.subtract(BigInteger.ONE).multiply(BigInteger.valueOf(8)).add(BigInteger.ONE);
      if (needed.compareTo(missing) > 0) return 4;
      int bytes = isOne ? (width + 7) / 8 : times.intValueExact() * width;
      if (at + bytes > input.size()) return 1;
      if (isOne) {
        long number = bits(at, 0, bytes * 8);
        if (BigInteger.valueOf(number).bitLength() > width) return 5;
        for (int k = 0; k < times.intValueExact(); k++) read.add(number);
      } else {
        for (int k = 0; k < times.intValueExact() * 8; k++) {
          long number = bits(at + k / 8 * width, k % 8 * width, width);
          if (read.size() < n) read.add(number);
          else if (number != 0) return 5;
        }
      }
      at += bytes;
    }
    if (at < input.size()) return 6;
    row = read;
    return 0;
  }

  /** How many bytes the VARINT takes, or a fault below 0. */
  private int varintLength(int at) {
    for (int k = 0; at + k < input.size(); k++) {
      int b = input.get(at + k);
      // Ten bytes hold 70 bits: what is above bit 63, or calls for an eleventh byte, is too much.
      if (k == 9 && b != 0 && b != 1) return -2;
      if (b < 128) return b == 0 && k > 0 ? -2 : k + 1;
    }
    return -1;
  }

  private BigInteger varintAt(int at, int length) {
    BigInteger h = BigInteger.ZERO;
    for (int k = length - 1; k >= 0; k--) h = h.shiftLeft(7).add(BigInteger.valueOf(input.get(at + k) & 127));
    return h;
  }

  private long bits(int at, int from, int many) {
    long number = 0;
    for (int i = 0; i < many; i++) {
      int bit = from + i;
      if ((input.get(at + bit / 8) >> bit % 8 & 1) == 1) number |= 1L << i;
    }
    return number;
  }
}
