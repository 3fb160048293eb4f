import java.util.Arrays;

/** Rows of numbers, written as runs of one number and as groups of eight packed ones, and read back. */
public final class RunRows {
    public static final int NONE = -1;

    private static final int MOST_NUMBERS = 4096;
    private static final int MOST_WIDTH = 32;
    private static final int MOST_INPUT = 8192;
    private static final int FEED_BYTES = 20;
    private static final int GROUP = 8;

    // 512 groups of 32 bytes behind a VARINT of two. A run of ONE instead of a
    // group, with one more VARINT of groups behind it, would take at most 8 of
    // the 32, so no mixture is longer; nor is a smaller WIDTH.
    private static final int MOST_OUTPUT = 16386;

    // 64 bits are nine times seven and one.
    private static final int MOST_VARINT = 10;

    private static final int FINE = 0;
    private static final int CUT = 1;
    private static final int VARINT = 2;
    private static final int EMPTY = 3;
    private static final int MANY = 4;
    private static final int BITS = 5;
    private static final int MORE = 6;

    private final Bytes tape = new Bytes(MOST_INPUT);
    private final Writer writer = new Writer();
    private final Reader reader = new Reader();
    // The writer and the reader make these, so that no constructor hands out a part of its object.
    private final Bytes output = writer.to;
    private final Bytes input = reader.from;
    private Row row = new Row();
    private Row spare = new Row();
    private int width = 0;

    public RunRows() {
    }

    public boolean feed(int a, int b, int c, int d, int e) {
        if (tape.room() < FEED_BYTES) {
            return false;
        }
        tape.putFour(a);
        tape.putFour(b);
        tape.putFour(c);
        tape.putFour(d);
        tape.putFour(e);
        return true;
    }

    public boolean end(int n) {
        if (!input.become(tape, n)) {
            return false;
        }
        tape.empty();
        return true;
    }

    public boolean width(int w) {
        if (w < 0 || w > MOST_WIDTH) {
            return false;
        }
        width = w;
        return true;
    }

    public boolean add(int v, int n) {
        return row.append(v, n);
    }

    public void clear() {
        row.empty();
    }

    public int encode() {
        output.empty();
        if (!row.fits(width)) {
            return NONE;
        }
        writer.write(row, width);
        return output.count();
    }

    public int decode(int n) {
        if (n < 0 || n > MOST_NUMBERS) {
            return NONE;
        }
        int fault = reader.read(spare, width, n);
        if (fault == FINE) {
            exchangeRows();
        }
        return fault;
    }

    public boolean turn() {
        return input.become(output, output.count());
    }

    public int size() {
        return row.count();
    }

    public int value(int k) {
        return row.at(k);
    }

    public int output(int k) {
        return output.at(k);
    }

    // What is read goes to the spare row first, so that a fault leaves the row alone.
    private void exchangeRows() {
        Row read = spare;
        spare = row;
        row = read;
    }

    private static int numberBytes(int width) {
        return (width + 7) / 8;
    }

    /** Bytes one behind the other, up to a bound. */
    private static final class Bytes {
        private final byte[] bytes;
        private int count = 0;

        Bytes(int most) {
            bytes = new byte[Math.max(0, most)];
        }

        int count() {
            return count;
        }

        int room() {
            return bytes.length - count;
        }

        void empty() {
            count = 0;
        }

        int at(int k) {
            if (k < 0 || k >= count || k >= bytes.length) {
                return NONE;
            }
            return bytes[k] & 255;
        }

        void put(int b) {
            if (count >= 0 && count < bytes.length) {
                bytes[count] = (byte) b;
                count++;
            }
        }

        void putFour(int number) {
            for (int shift = 24; shift >= 0; shift -= 8) {
                put(number >>> shift);
            }
        }

        /** Takes over the first n bytes of the other; false, and nothing, if they aren't there or don't fit. */
        boolean become(Bytes other, int n) {
            if (n < 0 || n > other.count || n > other.bytes.length || n > bytes.length) {
                return false;
            }
            System.arraycopy(other.bytes, 0, bytes, 0, n);
            count = n;
            return true;
        }
    }

    /** Numbers of 32 bits without a sign. */
    private static final class Row {
        private final int[] numbers = new int[MOST_NUMBERS];
        private int count = 0;

        int count() {
            return count;
        }

        void empty() {
            count = 0;
        }

        /** 0 behind the end too, which is what fills the last group up. */
        int at(int k) {
            if (k < 0 || k >= count || k >= numbers.length) {
                return 0;
            }
            return numbers[k];
        }

        boolean append(int number, int times) {
            if (times < 1 || count < 0 || times > numbers.length - count) {
                return false;
            }
            Arrays.fill(numbers, count, count + times, number);
            count += times;
            return true;
        }

        boolean fits(int width) {
            for (int k = 0; k < count; k++) {
                // As a long, since a shift of an int by 32 would shift nothing.
                if ((at(k) & 0xFFFFFFFFL) >>> width != 0) {
                    return false;
                }
            }
            return true;
        }

        /** How many are the same from here on, the one here counted. */
        int sameFrom(int from) {
            int number = at(from);
            int k = from;
            while (k < count && at(k) == number) {
                k++;
            }
            return k - from;
        }
    }

    /** Writes a row as RUNS. */
    private static final class Writer {
        private final Bytes to = new Bytes(MOST_OUTPUT);

        void write(Row row, int width) {
            int at = 0;
            for (int runs = 0; runs < MOST_NUMBERS && at < row.count(); runs++) {
                int same = row.sameFrom(at);
                if (same >= GROUP) {
                    writeOne(row.at(at), same, width);
                    at += same;
                } else {
                    int groups = groupsFrom(row, at);
                    writeGroups(row, at, groups, width);
                    at += groups * GROUP;
                }
            }
        }

        private int groupsFrom(Row row, int from) {
            int groups = 0;
            for (int at = from; at < row.count(); at += GROUP) {
                if (row.sameFrom(at) >= GROUP) {
                    break;
                }
                groups++;
            }
            return groups;
        }

        private void writeOne(int number, int times, int width) {
            writeHead(times * 2);
            for (int i = 0; i < numberBytes(width); i++) {
                to.put(number >>> (8 * i));
            }
        }

        private void writeGroups(Row row, int from, int groups, int width) {
            writeHead(groups * 2 + 1);
            for (int g = 0; g < groups; g++) {
                writeGroup(row, from + g * GROUP, width);
            }
        }

        private void writeGroup(Row row, int from, int width) {
            long bits = 0;
            int held = 0;
            for (int k = 0; k < GROUP; k++) {
                bits |= (row.at(from + k) & 0xFFFFFFFFL) << held;
                held += width;
                for (; held >= 8; held -= 8) {
                    to.put((int) bits);
                    bits >>>= 8;
                }
            }
        }

        private void writeHead(int head) {
            int rest = head;
            for (int i = 1; i < MOST_VARINT && rest > 127; i++) {
                to.put(rest & 127 | 128);
                rest >>>= 7;
            }
            to.put(rest);
        }
    }

    /** Reads RUNS into a row, up to the first fault. */
    private static final class Reader {
        private final Bytes from = new Bytes(MOST_INPUT);
        private int at = 0;
        private long head = 0;

        int read(Row into, int width, int n) {
            at = 0;
            into.empty();
            // Every run without a fault holds a number at least, so n runs are enough.
            for (int runs = 0; runs < n && into.count() < n; runs++) {
                int fault = readRun(into, width, n);
                if (fault != FINE) {
                    return fault;
                }
            }
            return at < from.count() ? MORE : FINE;
        }

        private int readRun(Row into, int width, int n) {
            int fault = readHead();
            if (fault != FINE) {
                return fault;
            }
            if (head == 0 || head == 1) {
                return EMPTY;
            }
            boolean isOne = (head & 1) == 0;
            // Shifted without a sign: the head may have all 64 bits.
            long told = head >>> 1;
            int missing = n - into.count();
            int most = isOne ? missing : (missing + GROUP - 1) / GROUP;
            if (told > most) {
                return MANY;
            }
            int many = (int) told;
            int bytes = isOne ? numberBytes(width) : many * width;
            if (bytes > from.count() - at) {
                return CUT;
            }
            return isOne ? readOne(into, width, many) : readGroups(into, width, many, n);
        }

        private int readHead() {
            head = 0;
            for (int i = 0; i < MOST_VARINT; i++) {
                int b = from.at(at);
                if (b == NONE) {
                    return CUT;
                }
                at++;
                // The tenth byte has one bit left, and none may come behind it.
                if (i == MOST_VARINT - 1 && b > 1) {
                    return VARINT;
                }
                head |= (long) (b & 127) << (7 * i);
                if (b < 128) {
                    return b == 0 && i > 0 ? VARINT : FINE;
                }
            }
            return VARINT;
        }

        private int readOne(Row into, int width, int times) {
            long number = 0;
            for (int i = 0; i < numberBytes(width); i++) {
                number |= nextByte() << (8 * i);
            }
            if (number >>> width != 0) {
                return BITS;
            }
            into.append((int) number, times);
            return FINE;
        }

        private int readGroups(Row into, int width, int groups, int n) {
            long mask = (1L << width) - 1;
            long bits = 0;
            int held = 0;
            for (int k = 0; k < groups * GROUP; k++) {
                for (; held < width; held += 8) {
                    bits |= nextByte() << held;
                }
                int number = (int) (bits & mask);
                bits >>>= width;
                held -= width;
                if (into.count() < n) {
                    into.append(number, 1);
                } else if (number != 0) {
                    return BITS;
                }
            }
            return FINE;
        }

        private long nextByte() {
            int b = from.at(at);
            at++;
            return b & 255;
        }
    }
}
