import java.util.Arrays;

/** The master on the line: puts requests into frames and takes the answers out of theirs. */
final class Master {
    static final int FIRST = 64;
    static final int LAST = 128;
    static final int SELECT = 3;
    static final int OPERATE = 4;
    static final int DIRECT = 5;
    static final int ON = 3;
    static final int OFF = 4;
    static final int FUNCTION = 1;
    static final int OBJECT = 2;
    static final int PARAMETER = 4;
    static final int OVERFLOW = 8;

    final OutStation station;
    private final int from;
    private int nextPart = 0;
    private int seen;

    Master(OutStation station, int from) {
        this.station = station;
        this.from = from;
        this.seen = station.sent(-1);
    }

    Master() {
        this(new OutStation(), 3);
    }

    /** Of a new object whose first points have changed: binary ones to 1, analog ones to 10, 11 and so on. */
    static Master withEvents(int binary, int analog) {
        Master master = new Master();
        for (int i = 0; i < binary; i++) {
            master.station.change(0, i, 1);
        }
        for (int i = 0; i < analog; i++) {
            master.station.change(1, i, 10 + i);
        }
        return master;
    }

    /** The sum, reckoned otherwise than the program does: highest bit first, turned round at the end. */
    static int sumOf(int... bytes) {
        int c = 0;
        for (int b : bytes) {
            for (int i = 0; i < 8; i++) {
                boolean flip = (c >> 15 & 1) != (b >> i & 1);
                c = c << 1 & 0xFFFF;
                if (flip) {
                    c ^= 0x3D65;
                }
            }
        }
        return 0xFFFF ^ Integer.reverse(c) >>> 16;
    }

    static int[] join(int[]... rows) {
        int[] all = new int[0];
        for (int[] row : rows) {
            int at = all.length;
            all = Arrays.copyOf(all, at + row.length);
            System.arraycopy(row, 0, all, at, row.length);
        }
        return all;
    }

    static int[] join(int first, int[] row) {
        return join(new int[] {first}, row);
    }

    static int[] times(int n, int... bytes) {
        int[] all = new int[0];
        for (int i = 0; i < n; i++) {
            all = join(all, bytes);
        }
        return all;
    }

    static int[] withSum(int... bytes) {
        int sum = sumOf(bytes);
        return join(bytes, new int[] {sum & 255, sum >> 8});
    }

    static int[] frameHead(int n, int c, int to, int from) {
        return withSum(5, 100, n, c, to & 255, to >> 8, from & 255, from >> 8);
    }

    static int[] frame(int c, int to, int from, int... payload) {
        int[] all = frameHead(payload.length + 5, c, to, from);
        for (int at = 0; at < payload.length; at += 16) {
            all = join(all, withSum(Arrays.copyOfRange(payload, at, Math.min(at + 16, payload.length))));
        }
        return all;
    }

    static long packed(int... bytes) {
        long all = 0;
        for (int b : bytes) {
            all = all << 8 | b;
        }
        return all;
    }

    /** The fragment of an answer. */
    static int[] answerOf(int head, int firstSigns, int secondSigns, int... data) {
        return join(new int[] {head, 129, firstSigns, secondSigns}, data);
    }

    /** Headers of a READ that give so many bytes of data: none, or 6 and more. */
    static int[] headersFor(int bytes) {
        int[] headers = new int[0];
        int left = bytes;
        while (left > 0) {
            int some = left <= 13 ? left : Math.min(13, left - 6);
            headers = join(headers, new int[] {1, 2, 0, 0, some - 6});
            left -= some;
        }
        return headers;
    }

    /** What the last call of hear answered. */
    int bring(int... bytes) {
        int left = -1;
        for (int at = 0; at < bytes.length; at += 8) {
            int[] some = Arrays.copyOfRange(bytes, at, Math.min(at + 8, bytes.length));
            left = station.hear(packed(some), some.length);
        }
        return left;
    }

    int bringPart(int head, int... bytes) {
        return bring(frame(196, 10, from, join(head, bytes)));
    }

    /** A request in as few parts as it needs; its answer, or null when nothing was sent. */
    int[] request(int... fragment) {
        bringRequest(fragment);
        return answer();
    }

    void bringRequest(int... fragment) {
        for (int at = 0; at < fragment.length; at += 39) {
            int end = Math.min(at + 39, fragment.length);
            int head = (at == 0 ? FIRST : 0) + (end == fragment.length ? LAST : 0) + nextPart;
            nextPart = (nextPart + 1) % 64;
            bringPart(head, Arrays.copyOfRange(fragment, at, end));
        }
    }

    int[] read(int... headers) {
        return request(join(new int[] {192, 1}, headers));
    }

    /** The data of a READ's answer that stand behind the first bytes of them. */
    int[] readBehind(int bytes, int... header) {
        int[] answer = read(join(headersFor(bytes), header));
        return Arrays.copyOfRange(answer, 4 + bytes, answer.length);
    }

    int[] command(int number, int function, int x, int v) {
        return request(192 + number, function, 12, 1, 23, 1, x, v);
    }

    /** The status that a command is answered with, or -1 when its answer has none. */
    int statusOf(int number, int function, int x, int v) {
        int[] answer = command(number, function, x, v);
        return answer == null || answer.length != 11 ? -1 : answer[10];
    }

    void confirm(int number) {
        bringRequest(192 + number, 0);
    }

    /** The second signs of an answer to a READ that asks for nothing. */
    int secondSigns() {
        return read()[3];
    }

    /** All that was sent since the last look. */
    int[] sentBytes() {
        int total = station.sent(-1);
        int[] bytes = new int[total - seen];
        for (int i = 0; i < bytes.length; i++) {
            bytes[i] = station.sent(bytes.length - 1 - i);
        }
        seen = total;
        return bytes;
    }

    /** The fragment that the frames sent since the last look make, or null when there are none. */
    int[] answer() {
        int[] bytes = sentBytes();
        if (bytes.length == 0) {
            return null;
        }
        int[] fragment = new int[0];
        for (int at = 0; at < bytes.length; ) {
            int n = bytes[at + 2] - 5;
            int length = 10 + n + (n + 15) / 16 * 2;
            int[] payload = new int[n];
            for (int i = 0; i < n; i++) {
                payload[i] = bytes[at + 10 + i + i / 16 * 2];
            }
            if (!Arrays.equals(Arrays.copyOfRange(bytes, at, at + length), frame(68, from, 10, payload))) {
                throw new IllegalStateException("no right frame was sent: " + Arrays.toString(bytes));
            }
            boolean last = at + length == bytes.length;
            if ((payload[0] & FIRST) != (at == 0 ? FIRST : 0) || (payload[0] & LAST) != (last ? LAST : 0)) {
                throw new IllegalStateException("no right part was sent: " + Arrays.toString(bytes));
            }
            fragment = join(fragment, Arrays.copyOfRange(payload, 1, n));
            at += length;
        }
        return fragment;
    }
}
