import java.util.Arrays;

/** The master on the line: puts requests into frames and takes the answers out of theirs. */
final class Master {
    final OutStation station;
    private final int from;
    private int nextPart = 0;
    private int seen;

    Master(OutStation station, int from) {
        this.station = station;
        this.from = from;
        this.seen = station.sent(-1);
    }

    Master(OutStation station) {
        this(station, 3);
    }

    /** The sum, reckoned otherwise than the program does: highest bit first, turned round at the end. */
    static int sumOf(int... bytes) {
        int c = 0;
        for (int b : bytes) {
            for (int i = 0; i < 8; i++) {
                boolean flip = (c >> 15 & 1) != (b >> i & 1);
                c = c << 1 & 0xFFFF;
                if (flip) {
                    c ^= 0x3D65;
                }
            }
        }
        return 0xFFFF ^ Integer.reverse(c) >>> 16;
    }

    static int[] join(int[]... rows) {
        int[] all = new int[0];
        for (int[] row : rows) {
            int at = all.length;
            all = Arrays.copyOf(all, at + row.length);
            System.arraycopy(row, 0, all, at, row.length);
        }
        return all;
    }

    static int[] withSum(int... bytes) {
        int sum = sumOf(bytes);
        return join(bytes, new int[] {sum & 255, sum >> 8});
    }

    static int[] frame(int c, int to, int from, int... payload) {
        int[] all = withSum(5, 100, payload.length + 5, c, to & 255, to >> 8, from & 255, from >> 8);
        for (int at = 0; at < payload.length; at += 16) {
            all = join(all, withSum(Arrays.copyOfRange(payload, at, Math.min(at + 16, payload.length))));
        }
        return all;
    }

    static int[] times(int n, int... bytes) {
        int[] all = new int[0];
        for (int i = 0; i < n; i++) {
            all = join(all, bytes);
        }
        return all;
    }

    static long packed(int... bytes) {
        long all = 0;
        for (int b : bytes) {
            all = all << 8 | b;
        }
        return all;
    }

    /** What the last call of hear answered. */
    int bring(int... bytes) {
        int left = -1;
        for (int at = 0; at < bytes.length; at += 8) {
            int[] some = Arrays.copyOfRange(bytes, at, Math.min(at + 8, bytes.length));
            left = station.hear(packed(some), some.length);
        }
        return left;
    }

    int bringPart(int head, int... bytes) {
        return bring(frame(196, 10, from, join(new int[] {head}, bytes)));
    }

    /** A request in as few parts as it needs; its answer, or null when nothing was sent. */
    int[] request(int... fragment) {
        for (int at = 0; at < fragment.length; at += 39) {
            int end = Math.min(at + 39, fragment.length);
            int head = (at == 0 ? 64 : 0) + (end == fragment.length ? 128 : 0) + nextPart;
            nextPart = (nextPart + 1) % 64;
            bringPart(head, Arrays.copyOfRange(fragment, at, end));
        }
        return answer();
    }

    /** All that was sent since the last look. */
    int[] sentBytes() {
        int total = station.sent(-1);
        int[] bytes = new int[total - seen];
        for (int i = 0; i < bytes.length; i++) {
            bytes[i] = station.sent(bytes.length - 1 - i);
        }
        seen = total;
        return bytes;
    }

    /** The fragment that the frames sent since the last look make, or null when there are none. */
    int[] answer() {
        int[] bytes = sentBytes();
        if (bytes.length == 0) {
            return null;
        }
        int[] fragment = new int[0];
        int head = 64;
        for (int at = 0; at < bytes.length; ) {
            int n = bytes[at + 2] - 5;
            int length = 10 + n + (n + 15) / 16 * 2;
            int[] payload = new int[n];
            for (int i = 0; i < n; i++) {
                payload[i] = bytes[at + 10 + i + i / 16 * 2];
            }
            if (!Arrays.equals(Arrays.copyOfRange(bytes, at, at + length), frame(68, from, 10, payload))) {
                throw new IllegalStateException("no right frame was sent: " + Arrays.toString(bytes));
            }
            boolean last = at + length == bytes.length;
            if ((payload[0] & 64) != (at == 0 ? 64 : 0) || (payload[0] & 128) != (last ? 128 : 0)) {
                throw new IllegalStateException("no right part was sent: " + Arrays.toString(bytes));
            }
            fragment = join(fragment, Arrays.copyOfRange(payload, 1, n));
            at += length;
        }
        return fragment;
    }
}
