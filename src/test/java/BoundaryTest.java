import java.math.BigInteger;
import java.util.ArrayList;
import java.util.Arrays;
import java.util.List;

/** Each sentence of the document that names a boundary, on both sides of it; RefusedTest has what comes behind. */
public final class BoundaryTest {
  private static final int NONE = RunRows.NONE;
  private static final int CUT = 1;
  private static final int VARINT = 2;
  private static final int EMPTY = 3;
  private static final int MANY = 4;
  private static final int BITS = 5;
  private static final int MORE = 6;

  private static final Due due = new Due("BoundaryTest");

  public static void main(String[] args) {
    lastOf512Calls();
    rowFrom0To4096();
    numbersWithoutSign();
    widthFrom0To32();
    tapeOfAtMost8192();
    inputIsWhatWasCutLast();
    headsAsWritten();
    headsAsRead();
    oneInWholeBytes();
    everyBitOfAGroup();
    groupBehindGroup();
    lastGroupInPart();
    onlyTheLastRunHoldsMore();
    sevenOrEightAreTheSame();
    groupsUntilARunBegins();
    groupsUntilTheEnd();
    cutWithinAHead();
    headOfTooManyBytes();
    headOfTooManyBits();
    headOfNothing();
    oneOfTooMany();
    groupsOfTooMany();
    runsThatWrapAround();
    groupsNotAllThere();
    bytesLeft();
    faultsInTheirOrder();
    everyByteOfAFeed();
    endOfNoneAndAll();
    addToTheBrim();
    clearOfNoneAndAll();
    tooManyBitsAtAnyPlace();
    decodeOfNoneAndAll();
    turnOfAtMost8192();
    valueAtBothEnds();
    outputAtBothEnds();
    due.end();
  }

  // ---- helpers

  private static RunRows ofWidth(int w) {
    RunRows x = new RunRows();
    due.is("width(" + w + ")", x.width(w), true);
    return x;
  }

  private static RunRows withInput(int w, int... bytes) {
    RunRows x = ofWidth(w);
    due.putIn(x, bytes);
    return x;
  }

  private static void addEach(RunRows x, int... numbers) {
    for (int number : numbers) due.is("add", x.add(number, 1), true);
  }

  /** The highest number of this WIDTH, as it lies in 32 bits. */
  private static int highest(int w) {
    return (int) ((1L << w) - 1);
  }

  private static int[] joined(int[] first, int... then) {
    int[] all = Arrays.copyOf(first, first.length + then.length);
    System.arraycopy(then, 0, all, first.length, then.length);
    return all;
  }

  private static int[] head(BigInteger h) {
    List<Integer> bytes = new ArrayList<>();
    Model.varint(bytes, h);
    return bytes.stream().mapToInt(b -> b).toArray();
  }

  private static int[] head(long h) {
    return head(BigInteger.valueOf(h));
  }

  // ---- "An object is used for at most 512 calls after it has been made"

  private static void lastOf512Calls() {
    RunRows x = ofWidth(9);
    for (int call = 2; call <= 507; call++) due.is("call " + call, x.add(call, 1), true);
    due.is("call 508", x.encode(), 2 + 64 * 9);
    due.is("call 509", x.turn(), true);
    due.is("call 510", x.decode(506), 0);
    due.is("call 511", x.size(), 506);
    due.is("call 512", x.value(505), 507);
  }

  // ---- "THE ROW holds 0 .. 4096 numbers of 32 bits without a sign"

  private static void rowFrom0To4096() {
    RunRows x = new RunRows();
    due.is("a row of none is WRITTEN", x.encode(), 0);
    due.is("a row of none is turned", x.turn(), true);
    due.is("a row of none is READ", x.decode(0), 0);
    due.is("a row of none", x.size(), 0);
    x.width(12);
    for (int k = 0; k < 256; k++) due.is("add 16 more", x.add(k, 16), true);
    due.is("4096 of them", x.size(), 4096);
    due.is("not one more", x.add(0, 1), false);
    due.is("all are WRITTEN", x.encode(), 256 * 3);
    due.is("all are turned", x.turn(), true);
    due.is("all are READ", x.decode(4096), 0);
    due.is("4096 again", x.size(), 4096);
    due.is("not one more again", x.add(0, 1), false);
    for (int k = 0; k < 200; k++) due.is("the 16s", x.value(k * 20 + 95), (k * 20 + 95) / 16);
    due.is("the last of all", x.value(4095), 255);
    due.is("none behind it", x.value(4096), 0);
  }

  private static void numbersWithoutSign() {
    RunRows x = ofWidth(32);
    int[] numbers = {0, 1, Integer.MAX_VALUE, Integer.MIN_VALUE, -1, -2, 0x80000001, 0x7FFFFFFE};
    addEach(x, numbers);
    due.row("32 bits", x, numbers);
    due.written("32 bits", x, 3, 0, 0, 0, 0, 1, 0, 0, 0, 255, 255, 255, 127, 0, 0, 0, 128,
        255, 255, 255, 255, 254, 255, 255, 255, 1, 0, 0, 128, 254, 255, 255, 127);
    x.turn();
    x.clear();
    due.is("32 bits are READ", x.decode(8), 0);
    due.row("32 bits are READ", x, numbers);
    x.clear();
    x.add(-1, 8);
    due.written("32 bits of ONE", x, 16, 255, 255, 255, 255);
    x.turn();
    x.clear();
    due.is("32 bits of ONE are READ", x.decode(8), 0);
    due.row("32 bits of ONE are READ", x, -1, -1, -1, -1, -1, -1, -1, -1);
  }

  // ---- "WIDTH is 0 .. 32", "false if it isn't 0 .. 32"

  private static void widthFrom0To32() {
    for (int w = -70; w <= 70; w++) {
      RunRows x = ofWidth(11);
      boolean inside = w >= 0 && w <= 32;
      int is = inside ? w : 11;
      due.is("width(" + w + ")", x.width(w), inside);
      x.add(highest(is), 8);
      due.is("the highest of width(" + w + ")", x.encode(), 1 + (is + 7) / 8);
      if (is < 32) {
        x.add(1 << is, 1);
        due.is("one above width(" + w + ")", x.encode(), NONE);
      }
    }
  }

  // ---- "THE TAPE takes bytes, twenty a call, at most 8192", "false if it hasn't room"

  private static void tapeOfAtMost8192() {
    int[] full = fullTape();
    RunRows x = ofWidth(16);
    due.feedAll(x, full);
    due.is("feed 410: 12 bytes are no room", x.feed(-1, -1, -1, -1, -1), false);
    due.is("feed 411: nor are they later", x.feed(0, 0, 0, 0, 0), false);
    due.is("12 more bytes never came", x.end(8192), false);
    due.is("nor did one", x.end(8181), false);
    due.is("all 8180", x.end(8180), true);
    due.is("are READ", x.decode(4086), 0);
    for (int k = 0; k < 6; k++) due.is("the last number but " + (5 - k), x.value(4080 + k), 0xB0A0 + 0x0101 * k);
    for (int k = 0; k < 40; k++) due.is("number " + k * 104, x.value(k * 104), k * 104 * 13 & 0xFFFF);
    for (int k = 0; k < 40; k++) due.is("room again", x.feed(0, 0, 0, 0, 0), true);
    due.is("twenty a call, and not one more", x.end(801), false);
    due.is("twenty a call", x.end(800), true);
    RunRows y = ofWidth(16);
    due.feedAll(y, full);
    due.is("all but one", y.end(8179), true);
    due.is("are one too few", y.decode(4086), CUT);
    due.is("and two too many", y.decode(4085), MORE);
  }

  /** 510 groups of WIDTH 16 behind a head of two bytes, 8162 in all, and six runs of ONE number of three bytes. */
  private static int[] fullTape() {
    int[] bytes = new int[8180];
    bytes[0] = 0xFD;
    bytes[1] = 0x07;
    for (int k = 0; k < 4080; k++) {
      bytes[2 + 2 * k] = k * 13 & 255;
      bytes[3 + 2 * k] = k * 13 >> 8 & 255;
    }
    for (int k = 0; k < 6; k++) {
      bytes[8162 + 3 * k] = 2;
      bytes[8163 + 3 * k] = 0xA0 + k;
      bytes[8164 + 3 * k] = 0xB0 + k;
    }
    return bytes;
  }

  // ---- "the INPUT is what was cut off it last"

  private static void inputIsWhatWasCutLast() {
    RunRows x = withInput(8, 4, 7, 2, 8);
    due.is("a first INPUT", x.decode(3), 0);
    due.putIn(x, 2, 9);
    due.is("a second one, shorter", x.decode(1), 0);
    due.row("a second one, shorter", x, 9);
    due.is("and nothing of the first", x.decode(2), CUT);
    due.putIn(x);
    due.is("a third one of none", x.decode(1), CUT);
    due.is("a third one of none", x.decode(0), 0);
    due.is("is the row", x.size(), 0);
    x.add(6, 8);
    x.encode();
    x.feed(0x06050000, 0, 0, 0, 0);
    due.is("the output", x.turn(), true);
    due.is("is the INPUT", x.decode(8), 0);
    due.is("the tape stayed for later", x.end(2), true);
    due.is("and is the INPUT", x.decode(3), 0);
    due.row("and is the row", x, 5, 5, 5);
  }

  // ---- "VARINT: a number of at most 64 bits .. as few bytes as it takes"

  private static void headsAsWritten() {
    int[] times = {8, 9, 63, 64, 65, 4095, 4096};
    int[][] heads = {{16}, {18}, {126}, {128, 1}, {130, 1}, {0xFE, 63}, {128, 64}};
    for (int k = 0; k < times.length; k++) {
      RunRows x = ofWidth(4);
      x.add(3, times[k]);
      due.written(times[k] + " times", x, joined(heads[k], 3));
    }
    for (int groups : new int[] {1, 2, 62, 63, 64, 65, 511, 512}) {
      int[] bytes = Due.alternating(groups);
      RunRows x = withInput(1, bytes);
      due.is(groups + " groups are READ", x.decode(8 * groups), 0);
      due.is(groups + " groups are WRITTEN", x.encode(), bytes.length);
      for (int k = 0; k < Math.min(bytes.length, 300); k++) due.is(groups + " groups", x.output(k), bytes[k]);
      due.is(groups + " groups and no more", x.output(bytes.length), NONE);
    }
  }

  private static void headsAsRead() {
    for (int times = 1; times <= 4096; times++) {
      RunRows x = withInput(0, head(2L * times));
      due.is(times + " times", x.decode(times), 0);
      due.is(times + " times are so many", x.size(), times);
      due.is(times + " times are too many by one", x.decode(times - 1), times == 1 ? MORE : MANY);
      if (times < 4096) due.is(times + " times are too few by one", x.decode(times + 1), CUT);
    }
    for (int groups = 1; groups <= 512; groups++) {
      RunRows x = withInput(0, head(2L * groups + 1));
      due.is(groups + " groups", x.decode(8 * groups), 0);
      due.is(groups + " groups, one number in the last", x.decode(8 * groups - 7), 0);
      due.is(groups + " groups are so many", x.size(), 8 * groups - 7);
      due.is(groups + " groups are too many by one", x.decode(8 * groups - 8), groups == 1 ? MORE : MANY);
      if (groups < 512) due.is(groups + " groups are too few", x.decode(8 * groups + 1), CUT);
    }
    due.read("4097 times are too many for any row", 0, 4096, MANY, head(8194));
    due.read("513 groups are too many for any row", 0, 4096, MANY, head(1027));
  }

  // ---- "ONE number, h / 2 times, in (w + 7) / 8 bytes"; "5 BITS: a number of a run of ONE .. has bits that must be 0"

  private static void oneInWholeBytes() {
    for (int w = 0; w <= 32; w++) {
      int many = (w + 7) / 8;
      int[] bytes = new int[1 + many];
      bytes[0] = 16;
      for (int bit = 0; bit < w; bit++) bytes[1 + bit / 8] |= 1 << bit % 8;
      RunRows x = ofWidth(w);
      x.add(highest(w), 8);
      due.written("ONE of WIDTH " + w, x, bytes);
      due.row("ONE of WIDTH " + w, due.read("ONE of WIDTH " + w, w, 8, 0, bytes), rowOf(highest(w), 8));
      for (int there = 1; there < bytes.length; there++) {
        due.read("ONE of WIDTH " + w + ", of " + there + " bytes", w, 8, CUT, Arrays.copyOf(bytes, there));
      }
      due.read("ONE of WIDTH " + w + " and a byte", w, 8, MORE, Arrays.copyOf(bytes, many + 2));
      for (int bit = w; bit < 8 * many; bit++) {
        int[] wrong = {16, 0, 0, 0, 0};
        wrong[1 + bit / 8] |= 1 << bit % 8;
        due.read("ONE of WIDTH " + w + ", with bit " + bit, w, 8, BITS, Arrays.copyOf(wrong, bytes.length));
      }
    }
  }

  private static int[] rowOf(int number, int times) {
    int[] row = new int[times];
    Arrays.fill(row, number);
    return row;
  }

  // ---- "bit i of number k (0 .. 7) is bit w k + i of the group, bit 0 being the lowest of its first byte"

  private static void everyBitOfAGroup() {
    for (int w = 1; w <= 32; w++) {
      for (int bit = 0; bit < 8 * w; bit++) {
        int[] row = new int[8];
        row[bit / w] = 1 << bit % w;
        int[] bytes = new int[1 + w];
        bytes[0] = 3;
        bytes[1 + bit / 8] = 1 << bit % 8;
        RunRows x = ofWidth(w);
        addEach(x, row);
        due.written("WIDTH " + w + ", bit " + bit, x, bytes);
        x = due.read("WIDTH " + w + ", bit " + bit, w, 8, 0, bytes);
        due.row("WIDTH " + w + ", bit " + bit, x, row);
      }
    }
  }

  private static void groupBehindGroup() {
    for (int w = 1; w <= 32; w++) {
      int[] row = new int[24];
      int[] bytes = new int[1 + 3 * w];
      bytes[0] = 7;
      for (int k = 0; k < 24; k += 5) {
        row[k] = 1 << (w - 1);
        int bit = w * k + w - 1;
        bytes[1 + bit / 8] |= 1 << bit % 8;
      }
      RunRows x = ofWidth(w);
      addEach(x, row);
      due.written("three groups of WIDTH " + w, x, bytes);
      due.row("three groups of WIDTH " + w, due.read("three groups of WIDTH " + w, w, 24, 0, bytes), row);
    }
  }

  // ---- "Only the last run may hold more numbers than there are, less than eight, in its last group; these are 0";
  // ---- "5 BITS: .. or one that stands for none, has bits that must be 0"

  private static void lastGroupInPart() {
    for (int w = 0; w <= 32; w++) {
      for (int there = 1; there <= 7; there++) {
        String what = there + " of WIDTH " + w;
        int[] bytes = new int[1 + w];
        bytes[0] = 3;
        for (int bit = 0; bit < w * there; bit++) bytes[1 + bit / 8] |= 1 << bit % 8;
        RunRows x = ofWidth(w);
        x.add(highest(w), there);
        due.written(what, x, bytes);
        due.row(what, due.read(what, w, there, 0, bytes), rowOf(highest(w), there));
        for (int bit = w * there; bit < 8 * w; bit++) {
          int[] wrong = bytes.clone();
          wrong[1 + bit / 8] |= 1 << bit % 8;
          due.read(what + ", with bit " + bit, w, there, BITS, wrong);
        }
      }
    }
  }

  private static void onlyTheLastRunHoldsMore() {
    int[] bytes = {3, 1, 2, 3, 4, 5, 0, 0, 0, 2, 9};
    due.row("eight and one", due.read("eight and one", 8, 9, 0, bytes), 1, 2, 3, 4, 5, 0, 0, 0, 9);
    due.read("five and one aren't six", 8, 6, MORE, bytes);
    due.read("five, and a run left", 8, 5, MORE, bytes);
    due.read("four, and one that stands for none", 8, 4, BITS, bytes);
    due.read("eight, and a run left", 8, 8, MORE, bytes);
    due.read("ten", 8, 10, CUT, bytes);
    RunRows x = ofWidth(8);
    addEach(x, 1, 2, 3);
    x.add(5, 20);
    due.written("a group is filled from the run behind it", x, 3, 1, 2, 3, 5, 5, 5, 5, 5, 30, 5);
    due.read("eight more than there are", 8, 8, MANY, 5, 1, 2, 3, 4, 5, 6, 7, 8, 0, 0, 0, 0, 0, 0, 0, 0);
    due.read("seven more than there are", 8, 9, 0, 5, 1, 2, 3, 4, 5, 6, 7, 8, 9, 0, 0, 0, 0, 0, 0, 0);
  }

  // ---- "if it and at least seven behind it are the same, a run of ONE, of all that are the same from there on"

  private static void sevenOrEightAreTheSame() {
    for (int first = 1; first <= 24; first++) {
      for (int second = 0; second <= 24; second++) {
        RunRows x = ofWidth(8);
        x.add(1, first);
        if (second > 0) x.add(2, second);
        due.written(first + " and " + second, x, ofTwo(first, second));
      }
    }
  }

  private static int[] ofTwo(int first, int second) {
    if (first >= 8) {
      int[] one = {2 * first, 1};
      return second >= 8 ? joined(one, 2 * second, 2) : second > 0 ? joined(one, groups(0, second)) : one;
    }
    int behindTheGroup = first + second - 8;
    return behindTheGroup >= 8 ? joined(groups(first, 8 - first), 2 * behindTheGroup, 2) : groups(first, second);
  }

  /** GROUPS of WIDTH 8 of so many times 1, and then 2. */
  private static int[] groups(int ones, int twos) {
    int many = (ones + twos + 7) / 8;
    int[] bytes = new int[1 + 8 * many];
    bytes[0] = 2 * many + 1;
    Arrays.fill(bytes, 1, 1 + ones, 1);
    Arrays.fill(bytes, 1 + ones, 1 + ones + twos, 2);
    return bytes;
  }

  // ---- "otherwise GROUPS, as many until one begins with a number that is the same as at least seven behind it"

  private static void groupsUntilARunBegins() {
    for (int before = 1; before <= 16; before++) {
      for (int same = 1; same <= 24; same++) {
        int ofGroups = (before + 7) / 8 * 8;
        int behind = before + same - ofGroups;
        boolean isRun = behind >= 8;
        int all = isRun ? ofGroups : before + same;
        int[] bytes = new int[1 + (all + 7) / 8 * 8];
        bytes[0] = bytes.length / 8 * 2 + 1;
        for (int k = 0; k < all; k++) bytes[1 + k] = k < before ? 100 + k : 7;
        RunRows x = ofWidth(8);
        for (int k = 0; k < before; k++) x.add(100 + k, 1);
        x.add(7, same);
        due.written(same + " behind " + before, x, isRun ? joined(bytes, 2 * behind, 7) : bytes);
      }
    }
    RunRows x = ofWidth(8);
    x.add(1, 7);
    x.add(2, 8);
    x.add(3, 9);
    due.written("eight that no group begins with, and nine", x,
        5, 1, 1, 1, 1, 1, 1, 1, 2, 2, 2, 2, 2, 2, 2, 2, 3, 16, 3);
    x.clear();
    x.add(1, 7);
    x.add(2, 9);
    x.add(3, 8);
    due.written("a group, a run, a run", x, 3, 1, 1, 1, 1, 1, 1, 1, 2, 16, 2, 16, 3);
  }

  // ---- "or until the end"

  private static void groupsUntilTheEnd() {
    for (int zeros = 1; zeros <= 7; zeros++) {
      RunRows x = ofWidth(8);
      x.add(0, zeros);
      due.written(zeros + " zeros are no run with what stands for none", x, 3, 0, 0, 0, 0, 0, 0, 0, 0);
      x.clear();
      addEach(x, 1, 2, 3, 4, 5, 6, 7, 8);
      x.add(0, zeros);
      due.written(zeros + " zeros behind a group", x, 5, 1, 2, 3, 4, 5, 6, 7, 8, 0, 0, 0, 0, 0, 0, 0, 0);
      x.clear();
      x.add(4, 8);
      x.add(0, zeros);
      due.written(zeros + " zeros behind a run", x, 16, 4, 3, 0, 0, 0, 0, 0, 0, 0, 0);
    }
    RunRows x = ofWidth(8);
    x.add(0, 8);
    due.written("eight zeros are one", x, 16, 0);
  }

  // ---- "1 CUT: the bytes end within a VARINT"

  private static void cutWithinAHead() {
    for (int many = 0; many <= 9; many++) {
      for (int b : new int[] {0x80, 0x81, 0xFF}) {
        due.read(many + " times " + b, 8, 1, CUT, rowOf(b, many));
        due.read("a run and " + many + " times " + b, 8, 2, CUT, joined(new int[] {2, 5}, rowOf(b, many)));
        due.read("a group and " + many + " times " + b, 1, 9, CUT, joined(new int[] {3, 5}, rowOf(b, many)));
      }
    }
  }

  // ---- "2 VARINT: it has more bytes than it takes .. (it is known at the byte that tells it)"

  private static void headOfTooManyBytes() {
    for (int value : new int[] {0, 1, 2, 3, 4, 126, 127}) {
      for (int more = 1; more <= 9; more++) {
        int[] bytes = rowOf(0x80, more + 1);
        bytes[0] = value | 128;
        String what = value + " in " + more + " bytes more";
        due.read(what + ", not told yet", 0, 1, CUT, Arrays.copyOf(bytes, more));
        bytes[more] = 0;
        due.read(what, 0, 1, VARINT, bytes);
        due.read(what + ", and bytes behind it", 0, 1, VARINT, joined(bytes, 0, 0));
        due.read(what + ", in a second run", 0, 2, VARINT, joined(new int[] {2}, bytes));
      }
    }
    due.read("two bytes that it takes", 0, 64, 0, 0x80, 1);
    due.read("three bytes that it takes", 0, 4096, MANY, 0x80, 0x80, 1);
    due.read("three bytes where two do", 0, 4096, VARINT, 0x80, 0xC0, 0);
  }

  // ---- "2 VARINT: .. or more than 64 bits (it is known at the byte that tells it)"

  private static void headOfTooManyBits() {
    for (int low : new int[] {0x80, 0x82, 0xFF}) {
      for (int tenth = 0; tenth < 256; tenth++) {
        int[] bytes = rowOf(low, 10);
        bytes[9] = tenth;
        String what = "nine times " + low + ", and " + tenth;
        int want = tenth == 1 ? MANY : VARINT;
        due.read(what, 8, 4096, want, bytes);
        due.read(what + ", and 0", 8, 4096, want, joined(bytes, 0));
        due.read(what + ", and 1", 8, 4096, want, joined(bytes, 1));
        due.read(what + ", and more", 8, 4096, want, joined(bytes, rowOf(0x80, 30)));
        due.read(what + ", in a second run", 8, 4096, want, joined(new int[] {2, 7}, bytes));
      }
    }
  }

  // ---- "3 EMPTY: h is 0 or 1"

  private static void headOfNothing() {
    for (int h = 0; h <= 1; h++) {
      for (int n : new int[] {1, 2, 7, 8, 9, 4096}) {
        due.read("h " + h, 8, n, EMPTY, h);
        due.read("h " + h + " and bytes", 8, n, EMPTY, h, 5, 5, 5, 5, 5, 5, 5, 5, 5, 5);
        due.read("h " + h + " of WIDTH 0", 0, n, EMPTY, h);
        due.read("h " + h + " of WIDTH 32", 32, n, EMPTY, h);
      }
      due.read("h " + h + " as second", 8, 2, EMPTY, 2, 5, h);
      due.read("h " + h + " when none is missing", 8, 0, MORE, h);
      due.read("h " + h + " when none is missing any more", 8, 1, MORE, 2, 5, h);
    }
    due.read("h 2 is one number", 0, 1, 0, 2);
    due.read("h 3 is one group", 0, 8, 0, 3);
  }

  // ---- "4 MANY: a run of ONE of more than are missing"

  private static void oneOfTooMany() {
    for (int missing = 1; missing <= 20; missing++) {
      for (int times = 1; times <= 24; times++) {
        int want = times > missing ? MANY : times == missing ? 0 : CUT;
        due.read(times + " of " + missing, 8, missing, want, 2 * times, 5);
        due.read(times + " of the last " + missing, 8, missing + 3, want, 6, 1, 2 * times, 5);
        due.read(times + " of the last " + missing + " behind a group", 8, missing + 8, want,
            3, 1, 2, 3, 4, 5, 6, 7, 8, 2 * times, 5);
        if (times > missing) due.read(times + " of " + missing + ", without a number", 8, missing, MANY, 2 * times);
      }
    }
  }

  // ---- "4 MANY: .. or GROUPS of which the last one isn't needed"

  private static void groupsOfTooMany() {
    for (int missing = 1; missing <= 33; missing++) {
      int needed = (missing + 7) / 8;
      for (int groups = 1; groups <= 6; groups++) {
        int want = groups > needed ? MANY : groups == needed ? 0 : CUT;
        int[] bytes = new int[1 + groups];
        bytes[0] = 2 * groups + 1;
        due.read(groups + " for " + missing, 1, missing, want, bytes);
        due.read(groups + " for the last " + missing, 1, missing + 3, want, joined(new int[] {6, 1}, bytes));
        due.read(groups + " for the last " + missing + " behind a group", 1, missing + 8, want,
            joined(new int[] {3, 1}, bytes));
        if (groups > needed) due.read(groups + " for " + missing + ", none there", 1, missing, MANY, 2 * groups + 1);
      }
    }
  }

  /** Heads of which a part of the bits would be no fault: 2^e more times, or groups, than are due. */
  private static void runsThatWrapAround() {
    for (int e = 13; e <= 62; e++) {
      BigInteger far = BigInteger.ONE.shiftLeft(e);
      for (int right = 1; right <= 2; right++) {
        BigInteger h = far.add(BigInteger.valueOf(right)).shiftLeft(1);
        for (int w : new int[] {0, 1, 8, 32}) {
          due.read("2^" + e + " + " + right + " times", w, right, MANY, joined(head(h), 0, 0, 0, 0));
          int[] groups = joined(head(h.setBit(0)), new int[2 * w]);
          due.read("2^" + e + " + " + right + " groups", w, 8 * right, MANY, groups);
          due.read("2^" + e + " + " + right + " groups for 4096", w, 4096, MANY, groups);
        }
      }
      due.read("2^" + e + " times", 0, 4096, MANY, head(far.shiftLeft(1)));
      due.read("2^" + e + " groups", 0, 4096, MANY, head(far.shiftLeft(1).setBit(0)));
      due.read("2^" + e + " - 1 times", 0, 4096, MANY, head(far.shiftLeft(1).subtract(BigInteger.TWO)));
      due.read("2^" + e + " - 1 groups", 0, 4096, MANY, head(far.shiftLeft(1).subtract(BigInteger.ONE)));
    }
    BigInteger all = BigInteger.ONE.shiftLeft(64);
    due.read("2^63 - 1 times", 0, 4096, MANY, head(all.subtract(BigInteger.TWO)));
    due.read("2^63 - 1 groups", 0, 4096, MANY, head(all.subtract(BigInteger.ONE)));
    due.read("2^63 times", 0, 4096, VARINT, head(all));
    due.read("2^63 groups", 0, 4096, VARINT, head(all.add(BigInteger.ONE)));
  }

  // ---- "1 CUT: the number, or the groups, aren't all there" (the number: oneInWholeBytes)

  private static void groupsNotAllThere() {
    for (int w = 1; w <= 32; w++) {
      for (int groups = 1; groups <= 3; groups++) {
        int[] bytes = new int[1 + groups * w];
        bytes[0] = 2 * groups + 1;
        String what = groups + " groups of WIDTH " + w;
        for (int there = 0; there < groups * w; there++) {
          due.read(what + ", " + there + " bytes", w, 8 * groups - 7, CUT, Arrays.copyOf(bytes, 1 + there));
        }
        due.read(what, w, 8 * groups - 7, 0, bytes);
        due.read(what + " and a byte", w, 8 * groups - 7, MORE, joined(bytes, 0));
      }
    }
    for (int groups = 1; groups <= 3; groups++) {
      due.read("groups of WIDTH 0 are always there", 0, 8 * groups, 0, 2 * groups + 1);
    }
  }

  // ---- "When none is missing: 6 MORE: there are bytes left"

  private static void bytesLeft() {
    for (int b = 0; b < 256; b++) {
      due.read("none, and " + b, 8, 0, MORE, b);
      due.read("a run, and " + b, 8, 1, MORE, 2, 5, b);
      due.read("a group, and " + b, 1, 8, MORE, 3, 5, b);
      due.read("a group in part, and " + b, 1, 3, MORE, 3, 5, b);
      due.read("a run of WIDTH 0, and " + b, 0, 1, MORE, 2, b);
    }
    due.read("none, and none", 8, 0, 0);
    RunRows x = withInput(0, rowOf(2, 4096));
    due.is("4096 runs and no byte left", x.decode(4096), 0);
    due.is("4096 runs and one byte left", x.decode(4095), MORE);
    due.is("4096 runs and all left", x.decode(0), MORE);
  }

  // ---- "FAULTS, the first one there is, a run being looked at in this order"

  private static void faultsInTheirOrder() {
    due.read("VARINT before EMPTY", 8, 1, VARINT, 0x80, 0);
    due.read("VARINT before MANY", 8, 1, VARINT, 0xFE, 0x80, 0);
    due.read("VARINT before CUT of the number", 8, 1, VARINT, 0x82, 0);
    due.read("VARINT before BITS", 1, 1, VARINT, 0x82, 0, 0xFF);
    due.read("EMPTY before CUT of the number", 8, 1, EMPTY, 0);
    due.read("EMPTY before BITS", 1, 1, EMPTY, 0, 0xFF);
    due.read("MANY before CUT of the number", 32, 1, MANY, 4, 1, 1, 1);
    due.read("MANY before CUT of the groups", 32, 8, MANY, 5, 1, 1, 1);
    due.read("MANY before BITS of the number", 1, 1, MANY, 4, 0xFF);
    due.read("MANY before BITS of the groups", 1, 7, MANY, 5, 0xFF, 0xFF);
    due.read("MANY before MORE", 8, 1, MANY, 4, 1, 1);
    due.read("CUT of the number before BITS", 9, 1, CUT, 2, 0xFF);
    due.read("CUT of the groups before BITS", 3, 1, CUT, 3, 0xFF, 0xFF);
    due.read("BITS before MORE", 1, 1, BITS, 2, 2, 0);
    due.read("BITS of what stands for none before MORE", 1, 1, BITS, 3, 2, 0);
    int[][] second = {{}, {0x80}, {0x80, 0}, {0}, {1}, {6, 1}, {2}, {2, 2}};
    int[] wants = {CUT, CUT, VARINT, EMPTY, EMPTY, MANY, CUT, BITS};
    for (int k = 0; k < second.length; k++) {
      due.read("fault of the second run, " + k, 1, 3, wants[k], joined(new int[] {4, 1}, second[k]));
      due.read("BITS of the first run before it, " + k, 1, 3, BITS, joined(new int[] {4, 2}, second[k]));
      due.read("MANY of the first run before it, " + k, 1, 1, MANY, joined(new int[] {4, 1}, second[k]));
    }
  }

  // ---- Promise 2: "four in each number, the highest first"

  private static void everyByteOfAFeed() {
    RunRows x = ofWidth(8);
    x.feed(0x03F1F2F3, 0xF4F5F6F7, 0xF8030102, 0x03040506, 0x070802FF);
    due.is("all twenty", x.end(20), true);
    due.is("are READ", x.decode(17), 0);
    due.row("are READ", x, 0xF1, 0xF2, 0xF3, 0xF4, 0xF5, 0xF6, 0xF7, 0xF8, 1, 2, 3, 4, 5, 6, 7, 8, 255);
  }

  // ---- Promise 3: "the first n bytes of the tape, which is empty then; false if it hasn't so many, or n is below 0"

  private static void endOfNoneAndAll() {
    for (int feeds = 0; feeds <= 2; feeds++) {
      for (int n = -2; n <= 42; n++) {
        RunRows x = new RunRows();
        for (int k = 0; k < feeds; k++) x.feed(0x02020202, 0x02020202, 0x02020202, 0x02020202, 0x02020202);
        boolean has = n >= 0 && n <= 20 * feeds;
        due.is("end(" + n + ") of " + 20 * feeds, x.end(n), has);
        // Of WIDTH 0 each byte is a run of one number.
        if (has) due.is("end(" + n + ") has n bytes", x.decode(n), 0);
        due.is("end(" + n + ") leaves none", x.end(1), !has && feeds > 0);
        due.is("end(0) is never refused", x.end(0), true);
      }
    }
  }

  // ---- Promise 5: "n times (1 .. 4096); false, and none, if it would be too long, or n is another one"

  private static void addToTheBrim() {
    for (int size : new int[] {0, 1, 2, 2048, 4094, 4095, 4096}) {
      for (int n : new int[] {-4096, -1, 0, 1, 2, 3, 2047, 2048, 2049, 4094, 4095, 4096, 4097, 8192}) {
        RunRows x = new RunRows();
        if (size > 0) x.add(7, size);
        boolean fits = n >= 1 && n <= 4096 && size + n <= 4096;
        String what = "add(9, " + n + ") to " + size;
        due.is(what, x.add(9, n), fits);
        due.is(what + ", size", x.size(), fits ? size + n : size);
        due.is(what + ", the last old one", x.value(size - 1), size > 0 ? 7 : 0);
        due.is(what + ", the first new one", x.value(size), fits ? 9 : 0);
        if (fits) due.is(what + ", the last new one", x.value(size + n - 1), 9);
        due.is(what + ", none behind it", x.value(fits ? size + n : size), 0);
        due.is(what + ", what is left has room", x.size() == 4096 || x.add(8, 4096 - x.size()), true);
        due.is(what + ", and it is full", x.add(8, 1), false);
      }
    }
  }

  // ---- Promise 6: "The row is empty"

  private static void clearOfNoneAndAll() {
    RunRows x = new RunRows();
    x.clear();
    due.row("clear of none", x);
    x.add(5, 4096);
    x.clear();
    due.row("clear of all", x);
    due.is("nothing at the end", x.value(4095), 0);
    due.is("encode of none", x.encode(), 0);
    due.is("room for all", x.add(6, 4096), true);
    due.is("all anew", x.value(4095), 6);
  }

  // ---- Promise 7: "NONE (and no output) if a number has more bits than the WIDTH"

  private static void tooManyBitsAtAnyPlace() {
    for (int w : new int[] {0, 1, 7, 8, 9, 16, 31}) {
      for (int place = 0; place < 20; place++) {
        for (int more : new int[] {w, (w + 31) / 2, 31}) {
          RunRows x = ofWidth(w);
          String what = "bit " + more + " at " + place + ", WIDTH " + w;
          if (place > 0) x.add(highest(w), place);
          due.is(what + ", still none", x.encode() > 0, place > 0);
          x.add(1 << more, 1);
          if (place < 19) x.add(highest(w), 19 - place);
          due.is(what, x.encode(), NONE);
          due.is(what + ", no output", x.output(0), NONE);
          due.is(what + ", the row stays", x.value(place), 1 << more);
          due.is(what + ", all of it", x.size(), 20);
          x.width(more + 1);
          due.is(what + ", wide enough", x.encode() > 0, true);
        }
      }
    }
  }

  // ---- Promise 8: "0, or the FAULT (the row stays); NONE if n isn't 0 .. 4096"

  private static void decodeOfNoneAndAll() {
    RunRows x = withInput(8, 0x80, 0x40, 9);
    x.add(1, 2);
    due.is("decode(-1)", x.decode(-1), NONE);
    due.is("decode(4097)", x.decode(4097), NONE);
    due.is("decode(0)", x.decode(0), MORE);
    due.is("decode(4095)", x.decode(4095), MANY);
    due.row("the row stays", x, 1, 1);
    due.is("decode(4096)", x.decode(4096), 0);
    due.is("all of them", x.size(), 4096);
    due.is("the first", x.value(0), 9);
    due.is("the last", x.value(4095), 9);
    due.is("decode(4097) again", x.decode(4097), NONE);
    due.is("decode(1)", x.decode(1), MANY);
    due.is("still all of them", x.size(), 4096);
    due.putIn(x);
    due.is("decode(0) of none", x.decode(0), 0);
    due.row("is a row of none", x);
    due.is("nothing at the end", x.value(4095), 0);
  }

  // ---- Promise 9: "false if it has more than 8192 bytes"

  private static void turnOfAtMost8192() {
    // Behind 255 groups of WIDTH 32, 8162 bytes, runs of five bytes and, of 64 and more numbers, of six.
    turnOf(8191, 1, 4);
    turnOf(8192, 6, 0);
    turnOf(8193, 5, 1);
    turnOf(8194, 4, 2);
  }

  private static void turnOf(int bytes, int fives, int sixes) {
    RunRows x = withInput(1, Due.alternating(255));
    x.decode(2040);
    x.width(32);
    for (int k = 0; k < fives; k++) x.add(100 + k, 8);
    for (int k = 0; k < sixes; k++) x.add(-100 - k, 64);
    int n = 2040 + 8 * fives + 64 * sixes;
    due.is("an output of " + bytes, x.encode(), bytes);
    due.is("turn of " + bytes, x.turn(), bytes <= 8192);
    x.clear();
    if (bytes <= 8192) {
      due.is("READ of " + bytes, x.decode(n), 0);
      due.is("READ of " + bytes + ", the last", x.value(n - 1), sixes > 0 ? -99 - sixes : 99 + fives);
      due.is("READ of " + bytes + ", size", x.size(), n);
    } else {
      due.is("the INPUT of before isn't of WIDTH 32", x.decode(n), CUT);
      x.width(1);
      due.is("the INPUT of before", x.decode(2040), 0);
      due.is("the INPUT of before, size", x.size(), 2040);
    }
    due.is("the output stays", x.output(bytes - 1) >= 0, true);
    due.is("and is no longer", x.output(bytes), NONE);
  }

  // ---- Promise 11: "0 if there is none"

  private static void valueAtBothEnds() {
    for (int size : new int[] {0, 1, 2, 7, 8, 4095, 4096}) {
      RunRows x = new RunRows();
      // What was there before must not be seen again.
      x.add(-1, 4096);
      x.clear();
      if (size > 0) x.add(5, size);
      for (int k : new int[] {Integer.MIN_VALUE, -4096, -1, 0, 1, size - 2, size - 1, size, size + 1, 4095, 4096,
          Integer.MAX_VALUE}) {
        due.is("value(" + k + ") of " + size, x.value(k), k >= 0 && k < size ? 5 : 0);
      }
      due.is("size", x.size(), size);
    }
  }

  // ---- Promise 12: "NONE if there is none"

  private static void outputAtBothEnds() {
    RunRows x = ofWidth(32);
    due.is("before any encode", x.output(0), NONE);
    for (int numbers : new int[] {7, 8, 0}) {
      x.clear();
      if (numbers > 0) x.add(-1, numbers);
      int many = numbers == 7 ? 33 : numbers == 8 ? 5 : 0;
      due.is("encode of " + numbers, x.encode(), many);
      for (int k : new int[] {Integer.MIN_VALUE, -16386, -1, many, many + 1, 16385, 16386, Integer.MAX_VALUE}) {
        due.is("output(" + k + ") of " + many, x.output(k), NONE);
      }
      for (int k = 1; k < many; k++) due.is("output(" + k + ") of " + many, x.output(k), k <= 28 ? 255 : 0);
    }
  }
}
