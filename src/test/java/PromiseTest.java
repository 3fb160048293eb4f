/** Every promise by itself, with answers worked out by hand from the document. */
public final class PromiseTest {
  private static final int CUT = 1;
  private static final int VARINT = 2;
  private static final int EMPTY = 3;
  private static final int MANY = 4;
  private static final int BITS = 5;
  private static final int MORE = 6;

  private static final int[] ODD = {Integer.MIN_VALUE, -4097, -1, Integer.MAX_VALUE};

  private static final Due due = new Due("PromiseTest");

  public static void main(String[] args) {
    newObject();
    feed();
    end();
    width();
    add();
    clear();
    encodeRuns();
    encodeGroups();
    encodeEdges();
    encodeTooWide();
    decodeOrdinary();
    decodeEdges();
    decodeHeads();
    decodeFaultsInOrder();
    decodeLeavesTheRow();
    turn();
    turnEdges();
    sizeAndValue();
    output();
    due.end();
  }

  // ---- Promise 1

  private static void newObject() {
    RunRows x = new RunRows();
    due.is("P1 size", x.size(), 0);
    due.is("P1 value(0)", x.value(0), 0);
    due.is("P1 output(0)", x.output(0), RunRows.NONE);
    due.is("P1 the tape is empty", x.end(1), false);
    due.is("P1 the INPUT is empty: decode(0)", x.decode(0), 0);
    due.is("P1 the INPUT is empty: decode(1)", x.decode(1), CUT);
    due.is("P1 end(0)", x.end(0), true);
    x.add(0, 8);
    due.is("P1 WIDTH 0", x.encode(), 1);
    x.add(1, 1);
    due.is("P1 WIDTH 0 has no 1", x.encode(), RunRows.NONE);
    RunRows y = new RunRows();
    due.is("P1 objects share nothing", y.size(), 0);
  }

  // ---- Promise 2

  private static void feed() {
    RunRows x = new RunRows();
    x.width(8);
    due.is("P2 feed", x.feed(0x05008081, 0xFF7F0102, 0x03040506, 0x0708090A, 0x0B0C0D0E), true);
    due.is("P2 end(17)", x.end(17), true);
    due.is("P2 decode(16)", x.decode(16), 0);
    int[] bytes = {0x00, 0x80, 0x81, 0xFF, 0x7F, 1, 2, 3, 4, 5, 6, 7, 8, 9, 10, 11};
    for (int k = 0; k < bytes.length; k++) {
      due.is("P2 byte " + (k + 1), x.value(k), bytes[k]);
    }
    feedBehind();
    feedFull();
  }

  private static void feedBehind() {
    RunRows x = new RunRows();
    x.width(8);
    x.feed(0x07010203, 0x04050607, 0x08090A0B, 0x0C0D0E0F, 0x10111213);
    x.feed(0x14151617, 0x18000000, 0, 0, 0);
    due.is("P2 two feeds, end(25)", x.end(25), true);
    due.is("P2 two feeds, decode(24)", x.decode(24), 0);
    for (int k = 0; k < 24; k++) {
      due.is("P2 two feeds, value " + k, x.value(k), k + 1);
    }
  }

  private static void feedFull() {
    RunRows x = new RunRows();
    for (int k = 0; k < 409; k++) {
      due.is("P2 feed " + k, x.feed(0, 0, 0, 0, 0), true);
    }
    due.is("P2 no room for twenty more", x.feed(-1, -1, -1, -1, -1), false);
    due.is("P2 a refused feed brings nothing", x.end(8181), false);
    due.is("P2 the tape has 8180 bytes", x.end(8180), true);
    due.is("P2 room again", x.feed(0, 0, 0, 0, 0), true);
  }

  // ---- Promise 3

  private static void end() {
    RunRows x = new RunRows();
    x.width(8);
    x.feed(0x02090205, 0, 0, 0, 0);
    due.is("P3 end(-1)", x.end(-1), false);
    due.is("P3 end(21)", x.end(21), false);
    for (int n : ODD) {
      due.is("P3 end(" + n + ")", x.end(n), false);
    }
    due.is("P3 a refused end leaves the INPUT", x.decode(0), 0);
    due.is("P3 a refused end leaves the tape", x.end(2), true);
    due.is("P3 the first n bytes", x.decode(1), 0);
    due.is("P3 the first byte", x.value(0), 9);
    due.is("P3 the rest of the tape is gone", x.end(1), false);
    due.is("P3 still the old INPUT", x.decode(1), 0);
    due.is("P3 end(0) with an empty tape", x.end(0), true);
    due.is("P3 the INPUT is empty", x.decode(1), CUT);
    x.feed(0x02070000, 0, 0, 0, 0);
    due.is("P3 end(20)", x.end(20), true);
    due.is("P3 all twenty are the INPUT", x.decode(1), MORE);
    x.feed(0x02070000, 0, 0, 0, 0);
    due.is("P3 feeds begin anew", x.end(2), true);
    due.is("P3 the INPUT anew", x.decode(1), 0);
    due.is("P3 the number anew", x.value(0), 7);
    x.feed(0x02070000, 0, 0, 0, 0);
    due.is("P3 end(0) cuts off nothing", x.end(0), true);
    due.is("P3 end(0) empties the tape", x.end(1), false);
  }

  // ---- Promise 4

  private static void width() {
    RunRows x = new RunRows();
    x.add(5, 8);
    due.is("P4 width(3)", x.width(3), true);
    due.is("P4 width(-1)", x.width(-1), false);
    due.is("P4 width(33)", x.width(33), false);
    for (int w : ODD) {
      due.is("P4 width(" + w + ")", x.width(w), false);
    }
    due.is("P4 a refused one changes nothing", x.encode(), 2);
    for (int w = 0; w <= 32; w++) {
      due.is("P4 width(" + w + ")", x.width(w), true);
      due.is("P4 WIDTH " + w, x.encode(), w < 3 ? RunRows.NONE : 1 + (w + 7) / 8);
    }
  }

  // ---- Promise 5

  private static void add() {
    RunRows x = new RunRows();
    due.is("P5 add(7, 0)", x.add(7, 0), false);
    due.is("P5 add(7, 4097)", x.add(7, 4097), false);
    for (int n : ODD) {
      due.is("P5 add(7, " + n + ")", x.add(7, n), false);
    }
    due.is("P5 none came", x.size(), 0);
    due.is("P5 add(7, 1)", x.add(7, 1), true);
    due.is("P5 add(-1, 2)", x.add(-1, 2), true);
    due.is("P5 size", x.size(), 3);
    due.is("P5 value(0)", x.value(0), 7);
    due.is("P5 value(2)", x.value(2), -1);
    due.is("P5 add(1, 4096) is too long", x.add(1, 4096), false);
    due.is("P5 add(1, 4094) is too long", x.add(1, 4094), false);
    due.is("P5 add(1, 2147483647)", x.add(1, Integer.MAX_VALUE), false);
    due.is("P5 still three", x.size(), 3);
    due.is("P5 value(3) is none", x.value(3), 0);
    due.is("P5 add(1, 4093)", x.add(1, 4093), true);
    due.is("P5 size is 4096", x.size(), 4096);
    due.is("P5 full", x.add(1, 1), false);
    due.is("P5 value(4095)", x.value(4095), 1);
    RunRows y = new RunRows();
    due.is("P5 add(3, 4096)", y.add(3, 4096), true);
    due.is("P5 all of them", y.size(), 4096);
    due.is("P5 the last of them", y.value(4095), 3);
  }

  // ---- Promise 6

  private static void clear() {
    RunRows x = new RunRows();
    x.width(4);
    x.add(9, 8);
    x.encode();
    x.turn();
    x.feed(0x02010000, 0, 0, 0, 0);
    x.clear();
    due.is("P6 size", x.size(), 0);
    due.is("P6 value(0)", x.value(0), 0);
    due.is("P6 the output stays", x.output(1), 9);
    due.is("P6 the INPUT and the WIDTH stay", x.decode(8), 0);
    due.is("P6 the tape stays", x.end(20), true);
    x.clear();
    due.is("P6 there is room again", x.add(1, 4096), true);
    x.clear();
    due.is("P6 encode", x.encode(), 0);
  }

  // ---- Promise 7

  private static void encodeRuns() {
    RunRows x = new RunRows();
    x.width(32);
    x.add(0x87654321, 8);
    due.written("P7 eight are a run", x, 16, 0x21, 0x43, 0x65, 0x87);
    x.add(0x87654321, 55);
    due.written("P7 a head of one byte", x, 126, 0x21, 0x43, 0x65, 0x87);
    x.add(0x87654321, 1);
    due.written("P7 a head of two bytes", x, 0x80, 1, 0x21, 0x43, 0x65, 0x87);
    x.clear();
    x.width(9);
    x.add(257, 4096);
    due.written("P7 the longest run", x, 0x80, 0x40, 1, 1);
    x.clear();
    x.width(17);
    x.add(0x1ABCD, 8);
    x.add(2, 9);
    due.written("P7 run behind run", x, 16, 0xCD, 0xAB, 1, 18, 2, 0, 0);
    x.clear();
    x.width(0);
    x.add(0, 8);
    due.written("P7 no bytes of WIDTH 0", x, 16);
    x.clear();
    x.add(0, 7);
    due.written("P7 a group of WIDTH 0", x, 3);
  }

  private static void encodeGroups() {
    RunRows x = new RunRows();
    x.width(8);
    x.add(5, 7);
    due.written("P7 seven are none", x, 3, 5, 5, 5, 5, 5, 5, 5, 0);
    x.add(6, 1);
    due.written("P7 a whole group", x, 3, 5, 5, 5, 5, 5, 5, 5, 6);
    x.add(7, 7);
    due.written("P7 seven behind a group", x, 5, 5, 5, 5, 5, 5, 5, 5, 6, 7, 7, 7, 7, 7, 7, 7, 0);
    x.add(7, 1);
    due.written("P7 eight behind a group", x, 3, 5, 5, 5, 5, 5, 5, 5, 6, 16, 7);
    x.add(8, 1);
    due.written("P7 a group behind a run", x, 3, 5, 5, 5, 5, 5, 5, 5, 6, 16, 7, 3, 8, 0, 0, 0, 0, 0, 0, 0);
    x.clear();
    x.add(1, 1);
    x.add(2, 14);
    due.written("P7 a run that no group begins with", x, 5, 1, 2, 2, 2, 2, 2, 2, 2, 2, 2, 2, 2, 2, 2, 2, 0);
    x.add(2, 1);
    due.written("P7 a group begins with the rest of a run", x, 3, 1, 2, 2, 2, 2, 2, 2, 2, 16, 2);
    x.clear();
    x.add(0, 3);
    due.written("P7 what stands for none is no run of 0", x, 3, 0, 0, 0, 0, 0, 0, 0, 0);
    x.clear();
    x.width(3);
    for (int k = 0; k < 8; k++) {
      x.add(k, 1);
    }
    due.written("P7 the bits of a group", x, 3, 0x88, 0xC6, 0xFA);
  }

  private static void encodeEdges() {
    RunRows x = new RunRows();
    due.is("P7 nothing is no byte", x.encode(), 0);
    due.is("P7 no byte", x.output(0), RunRows.NONE);
    x.width(1);
    x.add(0, 1);
    due.written("P7 one number", x, 3, 0);
    x.clear();
    x.width(32);
    x.add(Integer.MIN_VALUE, 1);
    x.add(Integer.MAX_VALUE, 1);
    due.is("P7 a group of 32 bits", x.encode(), 33);
    int[] bytes = {3, 0, 0, 0, 0x80, 0xFF, 0xFF, 0xFF, 0x7F, 0};
    for (int k = 0; k < bytes.length; k++) {
      due.is("P7 a group of 32 bits, byte " + k, x.output(k), bytes[k]);
    }
    x.clear();
    x.width(8);
    for (int k = 0; k < 63; k++) {
      x.add(k, 7);
      x.add(k + 100, 1);
    }
    due.is("P7 63 groups", x.encode(), 1 + 504);
    due.is("P7 63 groups, the head", x.output(0), 127);
    x.add(63, 7);
    x.add(163, 1);
    due.is("P7 64 groups", x.encode(), 2 + 512);
    due.is("P7 64 groups, the head", x.output(0), 0x81);
    due.is("P7 64 groups, the head's end", x.output(1), 1);
    due.is("P7 the row stays", x.size(), 512);
    due.is("P7 its last number stays", x.value(511), 163);
  }

  private static void encodeTooWide() {
    RunRows x = new RunRows();
    for (int w = 0; w < 32; w++) {
      x.width(w);
      x.clear();
      x.add((1 << w) - 1, 8);
      due.is("P7 just fits " + w, x.encode(), 1 + (w + 7) / 8);
      x.add(1 << w, 1);
      due.is("P7 one bit more than " + w, x.encode(), RunRows.NONE);
      due.is("P7 no output then", x.output(0), RunRows.NONE);
    }
    x.clear();
    x.width(31);
    x.add(-1, 1);
    due.is("P7 32 bits have no sign", x.encode(), RunRows.NONE);
    due.is("P7 the row stays", x.value(0), -1);
    x.width(32);
    due.is("P7 32 bits fit 32", x.encode(), 33);
  }

  // ---- Promise 8

  private static void decodeOrdinary() {
    RunRows x = due.read("P8 ONE once", 8, 1, 0, 2, 200);
    due.row("P8 ONE once", x, 200);
    x = due.read("P8 ONE of 32 bits", 32, 2, 0, 4, 0x21, 0x43, 0x65, 0x87);
    due.row("P8 ONE of 32 bits", x, 0x87654321, 0x87654321);
    x = due.read("P8 ONE, a group, ONE", 3, 11, 0, 4, 7, 3, 0x88, 0xC6, 0xFA, 2, 1);
    due.row("P8 ONE, a group, ONE", x, 7, 7, 0, 1, 2, 3, 4, 5, 6, 7, 1);
    x = due.read("P8 a last group in part", 3, 3, 0, 3, 0xD1, 0, 0);
    due.row("P8 a last group in part", x, 1, 2, 3);
    x = due.read("P8 two heads of one group", 1, 16, 0, 3, 0xA5, 3, 0x0F);
    due.row("P8 two heads of one group", x, 1, 0, 1, 0, 0, 1, 0, 1, 1, 1, 1, 1, 0, 0, 0, 0);
    x = due.read("P8 a group of 32 bits", 32, 2, 0, 3, 0, 0, 0, 0x80, 0xFF, 0xFF, 0xFF, 0x7F,
        0, 0, 0, 0, 0, 0, 0, 0, 0, 0, 0, 0, 0, 0, 0, 0, 0, 0, 0, 0, 0, 0, 0, 0);
    due.row("P8 a group of 32 bits", x, Integer.MIN_VALUE, Integer.MAX_VALUE);
    x = due.read("P8 WIDTH 0", 0, 13, 0, 10, 3);
    due.row("P8 WIDTH 0", x, 0, 0, 0, 0, 0, 0, 0, 0, 0, 0, 0, 0, 0);
  }

  private static void decodeEdges() {
    RunRows x = new RunRows();
    for (int n : ODD) {
      due.is("P8 decode(" + n + ")", x.decode(n), RunRows.NONE);
    }
    due.is("P8 decode(4097)", x.decode(4097), RunRows.NONE);
    x.add(5, 3);
    due.is("P8 decode(0)", x.decode(0), 0);
    due.is("P8 no number becomes the row", x.size(), 0);
    due.read("P8 none, but a byte", 8, 0, MORE, 0);
    x = due.read("P8 4096 by one run", 8, 4096, 0, 0x80, 0x40, 9);
    due.is("P8 4096 by one run, size", x.size(), 4096);
    due.is("P8 4096 by one run, the last", x.value(4095), 9);
    due.is("P8 the INPUT stays", x.decode(4096), 0);
    due.is("P8 4097 of the same INPUT", x.decode(4097), RunRows.NONE);
    due.is("P8 4095 of the same INPUT", x.decode(4095), MANY);
    x = due.read("P8 512 groups of WIDTH 0", 0, 4096, 0, 0x81, 0x08);
    due.is("P8 512 groups of WIDTH 0, size", x.size(), 4096);
    due.is("P8 512 groups, the last one not needed", x.decode(4088), MANY);
    due.is("P8 512 groups, the last one in part", x.decode(4089), 0);
    due.is("P8 size 4089", x.size(), 4089);
    due.read("P8 513 groups of WIDTH 0", 0, 4096, MANY, 0x83, 0x08);
    x.width(4);
    due.is("P8 the WIDTH is the one of now", x.decode(4096), CUT);
    x = due.read("P8 WIDTH 4", 4, 8, 0, 3, 0x21, 0x43, 0x65, 0x87);
    x.width(2);
    due.is("P8 WIDTH 2 of the same INPUT", x.decode(8), MORE);
    x.width(5);
    due.is("P8 WIDTH 5 of the same INPUT", x.decode(8), CUT);
  }

  private static void decodeHeads() {
    due.read("P8 no byte", 8, 1, CUT);
    due.read("P8 a head without its end", 8, 1, CUT, 0x80);
    due.read("P8 a head of nine without its end", 8, 1, CUT, 0x80, 0x80, 0x80, 0x80, 0x80, 0x80, 0x80, 0x80, 0x80);
    due.read("P8 a byte more than it takes", 8, 1, VARINT, 0x82, 0);
    due.read("P8 two bytes more than it takes", 8, 1, VARINT, 0x82, 0x80, 0);
    due.read("P8 0 in two bytes", 8, 1, VARINT, 0x80, 0);
    due.read("P8 1 in two bytes", 8, 1, VARINT, 0x81, 0);
    due.read("P8 0 in ten bytes", 8, 1, VARINT, 0x80, 0x80, 0x80, 0x80, 0x80, 0x80, 0x80, 0x80, 0x80, 0);
    due.read("P8 2^63", 8, 4096, MANY, 0x80, 0x80, 0x80, 0x80, 0x80, 0x80, 0x80, 0x80, 0x80, 1);
    due.read("P8 2^63 + 1", 8, 4096, MANY, 0x81, 0x80, 0x80, 0x80, 0x80, 0x80, 0x80, 0x80, 0x80, 1);
    due.read("P8 2^64 - 1", 8, 4096, MANY, 255, 255, 255, 255, 255, 255, 255, 255, 255, 1);
    due.read("P8 2^64", 8, 4096, VARINT, 0x80, 0x80, 0x80, 0x80, 0x80, 0x80, 0x80, 0x80, 0x80, 2);
    due.read("P8 a bit 69", 8, 4096, VARINT, 0x80, 0x80, 0x80, 0x80, 0x80, 0x80, 0x80, 0x80, 0x80, 0x40);
    due.read("P8 2^64 is known at the tenth byte", 8, 1, VARINT, 255, 255, 255, 255, 255, 255, 255, 255, 255, 0x82);
    due.read("P8 an eleventh byte is told by the tenth", 8, 1, VARINT, 128, 128, 128, 128, 128, 128, 128, 128, 128, 128);
    due.read("P8 eleven bytes", 8, 1, VARINT, 128, 128, 128, 128, 128, 128, 128, 128, 128, 0x81, 0);
    due.read("P8 2^32 + 2 times isn't twice", 8, 4096, MANY, 0x84, 0x80, 0x80, 0x80, 0x20, 7);
    due.read("P8 2^32 + 1 groups aren't one", 0, 8, MANY, 0x83, 0x80, 0x80, 0x80, 0x20);
  }

  private static void decodeFaultsInOrder() {
    due.read("P8 EMPTY 0", 8, 1, EMPTY, 0);
    due.read("P8 EMPTY 1", 8, 1, EMPTY, 1, 5, 5);
    due.read("P8 EMPTY behind a run", 8, 2, EMPTY, 2, 5, 1);
    due.read("P8 MANY before CUT", 8, 1, MANY, 4);
    due.read("P8 MANY groups before CUT", 8, 8, MANY, 5);
    due.read("P8 MANY before BITS", 1, 1, MANY, 4, 255);
    due.read("P8 MANY of what is still missing", 8, 3, MANY, 4, 5, 4, 5);
    due.read("P8 MANY groups for what is still missing", 1, 10, MANY, 4, 1, 5, 0, 0);
    due.read("P8 the number is cut", 9, 1, CUT, 2, 255);
    due.read("P8 the number isn't there", 9, 1, CUT, 2);
    due.read("P8 the groups are cut", 2, 16, CUT, 5, 255, 255, 255);
    due.read("P8 CUT before BITS", 2, 9, CUT, 5, 255, 255, 255);
    due.read("P8 numbers are missing at the end", 8, 2, CUT, 2, 5);
    due.read("P8 BITS of a number", 3, 1, BITS, 2, 8);
    due.read("P8 the highest bit of its byte", 7, 1, BITS, 2, 0x80);
    due.read("P8 BITS of 9", 9, 1, BITS, 2, 0, 2);
    due.read("P8 BITS of 31", 31, 1, BITS, 2, 0, 0, 0, 0x80);
    due.read("P8 no BITS of 31", 31, 1, 0, 2, 255, 255, 255, 0x7F);
    due.read("P8 BITS of what stands for none", 1, 3, BITS, 3, 0x0F);
    due.read("P8 BITS of the very last one", 1, 7, BITS, 3, 0x80);
    due.read("P8 no BITS there", 1, 7, 0, 3, 0x7F);
    due.read("P8 BITS of a second group", 1, 9, BITS, 5, 255, 2);
    due.read("P8 BITS before MORE", 3, 1, BITS, 2, 8, 9);
    due.read("P8 BITS of the first run before the next one", 3, 2, BITS, 2, 8, 0);
    due.read("P8 BITS of an earlier group run", 1, 3, BITS, 3, 0xFF, 0);
    due.read("P8 MORE", 8, 1, MORE, 2, 5, 0);
    due.read("P8 MORE behind groups", 1, 8, MORE, 3, 5, 2);
    due.read("P8 MORE is a cut head too", 8, 1, MORE, 2, 5, 0x80);
  }

  private static void decodeLeavesTheRow() {
    RunRows x = new RunRows();
    x.width(1);
    x.add(77, 2);
    x.add(88, 1);
    int[][] faulty = {{}, {0x82, 0}, {2, 1, 1}, {2, 1, 0x40}, {2, 1, 2}, {6, 1, 0}, {3, 0xFF}, {2, 1, 2, 2}};
    int[] faults = {CUT, VARINT, EMPTY, MANY, CUT, MORE, BITS, BITS};
    for (int k = 0; k < faulty.length; k++) {
      due.putIn(x, faulty[k]);
      due.is("P8 fault of input " + k, x.decode(3), faults[k]);
      due.row("P8 the row stays, input " + k, x, 77, 77, 88);
    }
    due.is("P8 decode(-1)", x.decode(-1), RunRows.NONE);
    due.row("P8 the row stays, decode(-1)", x, 77, 77, 88);
    due.putIn(x, 2, 1);
    due.is("P8 a good one", x.decode(1), 0);
    due.row("P8 becomes the row", x, 1);
    x.add(5, 1);
    due.is("P8 another good one", x.decode(1), 0);
    due.row("P8 becomes the row again", x, 1);
    due.is("P8 the output stays", x.output(0), RunRows.NONE);
  }

  // ---- Promise 9

  private static void turn() {
    RunRows x = new RunRows();
    due.is("P9 no output is an empty INPUT", x.turn(), true);
    due.is("P9 the empty INPUT", x.decode(0), 0);
    x.width(8);
    x.feed(0x02630000, 0, 0, 0, 0);
    x.add(5, 9);
    x.encode();
    due.is("P9 turn", x.turn(), true);
    due.is("P9 the output stays", x.output(0), 18);
    due.is("P9 the INPUT", x.decode(9), 0);
    due.is("P9 the tape stays", x.end(2), true);
    due.is("P9 the tape is the INPUT now", x.decode(1), 0);
    due.is("P9 its number", x.value(0), 99);
    due.is("P9 turn again", x.turn(), true);
    x.encode();
    due.is("P9 a new output isn't the INPUT yet", x.decode(9), 0);
    x.width(0);
    due.is("P9 a failed encode", x.encode(), RunRows.NONE);
    due.is("P9 leaves nothing to turn", x.turn(), true);
    due.is("P9 which is an empty INPUT", x.decode(1), CUT);
  }

  private static void turnEdges() {
    RunRows x = rowOf2040();
    for (int k = 0; k < 6; k++) {
      x.add(k + 10, 8);
    }
    due.is("P9 8192 bytes", x.encode(), 8192);
    due.is("P9 8192 bytes are not too many", x.turn(), true);
    x.clear();
    due.is("P9 8192 bytes read back", x.decode(2088), 0);
    due.is("P9 the last of them", x.value(2087), 15);
    due.is("P9 the first of them", x.value(0), 1);
    x.add(15, 56);
    due.is("P9 8193 bytes", x.encode(), 8193);
    due.is("P9 8193 bytes are too many", x.turn(), false);
    due.is("P9 the INPUT stays", x.decode(2088), 0);
    due.is("P9 the output stays", x.output(8192), 0);
    due.is("P9 and ends there", x.output(8193), RunRows.NONE);
  }

  // 255 groups of WIDTH 32, by reading bits and widening them: too many to add one by one.
  private static RunRows rowOf2040() {
    RunRows x = new RunRows();
    x.width(1);
    due.putIn(x, Due.alternating(255));
    due.is("255 groups of bits", x.decode(2040), 0);
    x.width(32);
    return x;
  }

  // ---- Promises 10 and 11

  private static void sizeAndValue() {
    RunRows x = new RunRows();
    x.add(3, 5);
    x.add(Integer.MIN_VALUE, 1);
    due.is("P10 size", x.size(), 6);
    due.is("P11 value(4)", x.value(4), 3);
    due.is("P11 value(5)", x.value(5), Integer.MIN_VALUE);
    due.is("P11 value(6)", x.value(6), 0);
    due.is("P11 value(4096)", x.value(4096), 0);
    for (int k : ODD) {
      due.is("P11 value(" + k + ")", x.value(k), 0);
    }
    x.clear();
    x.add(1, 2);
    due.is("P10 size anew", x.size(), 2);
    due.is("P11 nothing of the old row", x.value(2), 0);
    x.add(1, 4094);
    due.is("P10 full", x.size(), 4096);
    due.is("P11 value(4095)", x.value(4095), 1);
    due.is("P11 full, value(4096)", x.value(4096), 0);
    due.is("P11 full, value(-1)", x.value(-1), 0);
  }

  // ---- Promise 12

  private static void output() {
    RunRows x = new RunRows();
    x.width(8);
    x.add(255, 8);
    due.is("P12 before encode", x.output(0), RunRows.NONE);
    x.encode();
    due.is("P12 output(1) has no sign", x.output(1), 255);
    due.is("P12 output(2)", x.output(2), RunRows.NONE);
    for (int k : ODD) {
      due.is("P12 output(" + k + ")", x.output(k), RunRows.NONE);
    }
    x.clear();
    due.is("P12 a shorter one", x.encode(), 0);
    due.is("P12 nothing of the old one", x.output(0), RunRows.NONE);
    outputLongest();
  }

  private static void outputLongest() {
    RunRows x = new RunRows();
    x.width(1);
    due.putIn(x, Due.alternating(512));
    due.is("P12 512 groups of bits", x.decode(4096), 0);
    x.width(32);
    due.is("P12 the longest output", x.encode(), 16386);
    due.is("P12 the longest one's head", x.output(0), 0x81);
    due.is("P12 the longest one's head's end", x.output(1), 8);
    due.is("P12 its last 1", x.output(16378), 1);
    due.is("P12 its last byte", x.output(16385), 0);
    due.is("P12 behind its last byte", x.output(16386), RunRows.NONE);
    due.is("P9 the longest output can't be turned", x.turn(), false);
    x.width(1);
    due.is("P9 the INPUT stays", x.decode(4096), 0);
  }
}
