import java.util.EnumSet;
import java.util.function.Consumer;
import java.util.function.Supplier;
import java.util.function.ToIntFunction;

/** What every other call answers behind a refused one (as if it had not been), and behind one that changes a part. */
public final class RefusedTest {
  private static final int NO = 0;
  private static final int YES = 1;
  private static final int NONE = RunRows.NONE;
  private static final int[] ODD = {
    Integer.MIN_VALUE, Integer.MIN_VALUE + 1, -8193, -4097, -21, -2, -1, 0, 1, 2, 7, 8, 9, 19, 20, 21, 31, 32, 33,
    4094, 4095, 4096, 4097, 8191, 8192, 8193, 16385, 16386, 16387, 65536, 1 << 30, Integer.MAX_VALUE - 4095,
    Integer.MAX_VALUE - 1, Integer.MAX_VALUE};

  private static final Due due = new Due("RefusedTest");

  public static void main(String[] args) {
    feedWithoutRoom();
    endOfTooMany();
    widthOutside();
    addOfNoneOrTooMany();
    encodeTooWide();
    decodeOutside();
    decodeFaults();
    turnTooLong();
    looking();
    changing();
    anyNumbers();
    due.end();
  }

  // ---- the states that calls are tried in

  private static RunRows fresh() {
    return new RunRows();
  }

  /** Row 77 77 88, WIDTH 7, a tape of twenty bytes, an INPUT of two, an output of nine. */
  private static RunRows busy() {
    RunRows x = new RunRows();
    x.width(8);
    x.add(9, 12);
    x.encode();
    x.turn();
    x.clear();
    x.add(77, 2);
    x.add(88, 1);
    x.encode();
    x.width(7);
    x.feed(0x04050203, 0x02020202, 0x02020202, 0x02020202, 0x02020202);
    return x;
  }

  private static RunRows busyWith(int... input) {
    RunRows x = busy();
    x.end(20);
    due.putIn(x, input);
    x.feed(0x04050203, 0x02020202, 0x02020202, 0x02020202, 0x02020202);
    return x;
  }

  /** 8180 bytes on the tape: the head of a run and what it could hold, so that its bytes can be told. */
  private static RunRows fullTape() {
    RunRows x = new RunRows();
    x.width(8);
    x.add(5, 3);
    x.encode();
    x.turn();
    x.feed(0x04050203, 0x02020202, 0x02020202, 0x02020202, 0x02020202);
    for (int k = 1; k < 409; k++) x.feed(k, k << 8, k << 16, k << 24, -k);
    return x;
  }

  private static RunRows fullRow() {
    RunRows x = busy();
    x.add(3, 4000);
    x.add(4, 93);
    return x;
  }

  /** An output of 8193 bytes beside an INPUT of 257. */
  private static RunRows longOutput() {
    RunRows x = new RunRows();
    x.width(1);
    due.putIn(x, Due.alternating(255));
    x.decode(2040);
    x.width(32);
    for (int k = 0; k < 5; k++) x.add(k + 10, 8);
    x.add(15, 64);
    due.is("an output of 8193", x.encode(), 8193);
    x.feed(0x04050203, 0x02020202, 0x02020202, 0x02020202, 0x02020202);
    return x;
  }

  private static RunRows longestOutput() {
    RunRows x = new RunRows();
    x.width(1);
    due.putIn(x, Due.alternating(512));
    x.decode(4096);
    x.width(32);
    due.is("an output of 16386", x.encode(), 16386);
    return x;
  }

  // ---- what is looked for

  private static int asInt(boolean answer) {
    return answer ? YES : NO;
  }

  /** The call answers this, and but for these parts nothing can be told from an object without the call. */
  private static void only(
      String what, Supplier<RunRows> made, ToIntFunction<RunRows> call, int want, Told.Part... parts) {
    EnumSet<Told.Part> changed = EnumSet.noneOf(Told.Part.class);
    for (Told.Part part : parts) changed.add(part);
    due.is(what, call.applyAsInt(made.get()), want);
    Supplier<RunRows> behind = () -> {
      RunRows x = made.get();
      call.applyAsInt(x);
      return x;
    };
    for (Told.Part part : Told.Part.values()) {
      boolean same = Told.of(part, behind).equals(Told.of(part, made));
      due.is(what + ": the " + part + " stays", same, !changed.contains(part));
    }
  }

  private static void onlyBy(String what, Supplier<RunRows> made, Consumer<RunRows> call, Told.Part part) {
    only(what, made, x -> {
      call.accept(x);
      return YES;
    }, YES, part);
  }

  // ---- Promise 2: "false if it hasn't room"

  private static void feedWithoutRoom() {
    only("feed 410", RefusedTest::fullTape, x -> asInt(x.feed(-1, 1, 2, 3, 4)), NO);
    only("feed 410, of 0", RefusedTest::fullTape, x -> asInt(x.feed(0, 0, 0, 0, 0)), NO);
    RunRows x = busy();
    due.is("a refused end", x.end(21), false);
    int feeds = 0;
    while (feeds < 420 && x.feed(0, 0, 0, 0, 0)) feeds++;
    due.is("takes no room and gives none", feeds, 408);
  }

  // ---- Promise 3: "false if it hasn't so many, or n is below 0"

  private static void endOfTooMany() {
    for (int n : new int[] {-1, -20, Integer.MIN_VALUE, 1, 8192, Integer.MAX_VALUE}) {
      only("new, end(" + n + ")", RefusedTest::fresh, x -> asInt(x.end(n)), NO);
    }
    for (int n : new int[] {-1, -20, Integer.MIN_VALUE, 21, 8192, Integer.MAX_VALUE}) {
      only("busy, end(" + n + ")", RefusedTest::busy, x -> asInt(x.end(n)), NO);
    }
    for (int n : new int[] {-1, 8181, 8192, 8193}) {
      only("full tape, end(" + n + ")", RefusedTest::fullTape, x -> asInt(x.end(n)), NO);
    }
  }

  // ---- Promise 4: "false if it isn't 0 .. 32"

  private static void widthOutside() {
    for (int w : new int[] {-1, 33, -32, 64, Integer.MIN_VALUE, Integer.MAX_VALUE}) {
      only("new, width(" + w + ")", RefusedTest::fresh, x -> asInt(x.width(w)), NO);
      only("busy, width(" + w + ")", RefusedTest::busy, x -> asInt(x.width(w)), NO);
    }
  }

  // ---- Promise 5: "false, and none, if it would be too long, or n is another one"

  private static void addOfNoneOrTooMany() {
    for (int n : new int[] {0, -1, 4097, Integer.MIN_VALUE, Integer.MAX_VALUE}) {
      only("new, add(1, " + n + ")", RefusedTest::fresh, x -> asInt(x.add(1, n)), NO);
      only("busy, add(1, " + n + ")", RefusedTest::busy, x -> asInt(x.add(1, n)), NO);
      only("full row, add(1, " + n + ")", RefusedTest::fullRow, x -> asInt(x.add(1, n)), NO);
    }
    only("busy, add(1, 4094)", RefusedTest::busy, x -> asInt(x.add(1, 4094)), NO);
    only("busy, add(1, 4096)", RefusedTest::busy, x -> asInt(x.add(1, 4096)), NO);
    only("full row, add(1, 1)", RefusedTest::fullRow, x -> asInt(x.add(1, 1)), NO);
    only("full row, add(1, 4096)", RefusedTest::fullRow, x -> asInt(x.add(1, 4096)), NO);
  }

  // ---- Promise 7: "NONE (and no output) if a number has more bits than the WIDTH"

  private static void encodeTooWide() {
    Supplier<RunRows> narrow = () -> {
      RunRows x = busy();
      x.width(6);
      return x;
    };
    only("too wide by one bit", narrow, RunRows::encode, NONE, Told.Part.OUTPUT);
    Supplier<RunRows> last = () -> {
      RunRows x = fullRow();
      x.decode(12);
      x.add(128, 1);
      return x;
    };
    only("only the last one is too wide", last, RunRows::encode, NONE, Told.Part.OUTPUT);
    RunRows x = narrow.get();
    due.is("there was an output", x.output(0), 3);
    due.is("too wide", x.encode(), NONE);
    for (int k = -1; k < 10; k++) due.is("no output " + k, x.output(k), NONE);
    due.is("too wide again", x.encode(), NONE);
    x.width(7);
    due.is("wide enough again", x.encode(), 8);
    due.is("an output again", x.output(1), 77 | 77 << 7 & 128);
    Supplier<RunRows> none = () -> {
      RunRows y = narrow.get();
      y.encode();
      return y;
    };
    only("no output at all, encode", none, RunRows::encode, NONE);
    only("no output at all, turn", none, y -> asInt(y.turn()), YES, Told.Part.INPUT);
  }

  // ---- Promise 8: "NONE if n isn't 0 .. 4096"

  private static void decodeOutside() {
    for (int n : new int[] {-1, 4097, Integer.MIN_VALUE, Integer.MAX_VALUE}) {
      only("new, decode(" + n + ")", RefusedTest::fresh, x -> x.decode(n), NONE);
      only("busy, decode(" + n + ")", RefusedTest::busy, x -> x.decode(n), NONE);
      only("full row, decode(" + n + ")", RefusedTest::fullRow, x -> x.decode(n), NONE);
    }
  }

  // ---- Promise 8: "or the FAULT (the row stays)", each fault behind numbers that were read without one

  private static void decodeFaults() {
    fault("1 no byte", 1, 1);
    fault("1 a head without its end", 3, 1, 4, 5, 0x80);
    fault("1 no number", 3, 1, 4, 5, 2);
    fault("1 no group", 3, 1, 4, 5, 3, 1, 2, 3, 4, 5, 6);
    fault("2 a byte too many", 3, 2, 4, 5, 0x82, 0);
    fault("2 more than 64 bits", 3, 2, 4, 5, 128, 128, 128, 128, 128, 128, 128, 128, 128, 2);
    fault("3 h is 0", 3, 3, 4, 5, 0, 1);
    fault("3 h is 1", 3, 3, 4, 5, 1, 1);
    fault("4 ONE of too many", 3, 4, 4, 5, 4, 6);
    fault("4 too many groups", 3, 4, 4, 5, 5, 0, 0, 0, 0, 0, 0, 0, 0, 0, 0, 0, 0, 0, 0);
    fault("5 a number of ONE", 3, 5, 4, 5, 2, 0x80);
    fault("5 one that stands for none", 3, 5, 4, 5, 3, 0x80, 0, 0, 0, 0, 0, 0);
    fault("6 a byte left", 3, 6, 4, 5, 2, 6, 0);
    fault("6 a byte left when none is missing from the start", 0, 6, 2);
    only("new, decode(1)", RefusedTest::fresh, x -> x.decode(1), 1);
    only("busy, decode(11)", RefusedTest::busy, x -> x.decode(11), 4);
    only("full row, decode(13)", RefusedTest::fullRow, x -> x.decode(13), 1);
  }

  private static void fault(String what, int n, int want, int... input) {
    only(what, () -> busyWith(input), x -> x.decode(n), want);
    RunRows x = busyWith(input);
    due.is(what, x.decode(n), want);
    due.is(what + ", once more", x.decode(n), want);
    due.row(what + ", the row", x, 77, 77, 88);
    due.is(what + ", add behind it", x.add(9, 1), true);
    due.row(what + ", the row and one", x, 77, 77, 88, 9);
  }

  // ---- Promise 9: "false if it has more than 8192 bytes"

  private static void turnTooLong() {
    only("turn of 8193", RefusedTest::longOutput, x -> asInt(x.turn()), NO);
    only("turn of 16386", RefusedTest::longestOutput, x -> asInt(x.turn()), NO);
  }

  // ---- Promises 10 to 12: "0 if there is none", "NONE if there is none"

  private static void looking() {
    for (int k : new int[] {-1, 3, 4095, 4096, Integer.MIN_VALUE, Integer.MAX_VALUE}) {
      only("busy, value(" + k + ")", RefusedTest::busy, x -> x.value(k), 0);
    }
    for (int k : new int[] {-1, 9, 16386, Integer.MIN_VALUE, Integer.MAX_VALUE}) {
      only("busy, output(" + k + ")", RefusedTest::busy, x -> x.output(k), NONE);
    }
    only("busy, value(2)", RefusedTest::busy, x -> x.value(2), 88);
    only("busy, output(3)", RefusedTest::busy, x -> x.output(3), 88);
    only("busy, size", RefusedTest::busy, RunRows::size, 3);
  }

  // ---- what is not refused changes what the document says of it, and nothing else

  private static void changing() {
    only("feed", RefusedTest::busy, x -> asInt(x.feed(1, 2, 3, 4, 5)), YES, Told.Part.TAPE);
    for (int n : new int[] {0, 1, 4, 19, 20}) {
      only("end(" + n + ")", RefusedTest::busy, x -> asInt(x.end(n)), YES, Told.Part.TAPE, Told.Part.INPUT);
    }
    only("end(0) of an empty tape and INPUT", RefusedTest::fresh, x -> asInt(x.end(0)), YES);
    only("end(8180)", RefusedTest::fullTape, x -> asInt(x.end(8180)), YES, Told.Part.TAPE, Told.Part.INPUT);
    for (int w : new int[] {0, 1, 6, 8, 31, 32}) {
      only("width(" + w + ")", RefusedTest::busy, x -> asInt(x.width(w)), YES, Told.Part.WIDTH);
    }
    only("width(7) again", RefusedTest::busy, x -> asInt(x.width(7)), YES);
    for (int n : new int[] {1, 2, 4092, 4093}) {
      only("add(0, " + n + ")", RefusedTest::busy, x -> asInt(x.add(0, n)), YES, Told.Part.ROW);
    }
    onlyBy("clear", RefusedTest::busy, RunRows::clear, Told.Part.ROW);
    onlyBy("clear of a full row", RefusedTest::fullRow, RunRows::clear, Told.Part.ROW);
    only("encode", RefusedTest::busy, RunRows::encode, 8, Told.Part.OUTPUT);
    only("decode", RefusedTest::busy, x -> x.decode(12), 0, Told.Part.ROW);
    only("decode in place of a full row", RefusedTest::fullRow, x -> x.decode(12), 0, Told.Part.ROW);
    only("decode of none", () -> busyWith(), x -> x.decode(0), 0, Told.Part.ROW);
    only("turn", RefusedTest::busy, x -> asInt(x.turn()), YES, Told.Part.INPUT);
    only("turn of nothing to nothing", RefusedTest::fresh, x -> asInt(x.turn()), YES);
  }

  // ---- no call throws or stays away, whatever its numbers and the state

  private static void anyNumbers() {
    anyNumbers(RefusedTest::fresh);
    anyNumbers(RefusedTest::busy);
    anyNumbers(RefusedTest::fullTape);
    anyNumbers(RefusedTest::fullRow);
    anyNumbers(RefusedTest::longOutput);
    anyNumbers(RefusedTest::longestOutput);
  }

  private static void anyNumbers(Supplier<RunRows> made) {
    RunRows old = made.get();
    int size = old.size();
    for (int k : ODD) {
      boolean inRow = k >= 0 && k < size;
      due.is("value(" + k + ") of none is 0", inRow || made.get().value(k) == 0, true);
      due.is("output(" + k + ") is a byte or NONE", made.get().output(k) >> 8, made.get().output(k) < 0 ? -1 : 0);
      due.is("width(" + k + ")", made.get().width(k), k >= 0 && k <= 32);
      due.is("decode(" + k + ") is NONE", made.get().decode(k) == NONE, k < 0 || k > 4096);
      for (int v : new int[] {k, -k, 0}) {
        due.is("add(" + v + ", " + k + ")", made.get().add(v, k), k >= 1 && k <= 4096 - size);
      }
      RunRows x = made.get();
      boolean cut = x.end(k);
      due.is("end(" + k + ") and again", x.end(k), cut ? k == 0 : false);
      due.is("feed behind end(" + k + ")", x.feed(k, k, k, k, k), cut || made.get().feed(0, 0, 0, 0, 0));
    }
  }
}
