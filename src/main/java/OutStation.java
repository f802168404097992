/**
 * An outstation between a field and two masters. One master speaks in frames
 * on a line (hear, sent), the other one in plain questions (ask, told).
 */
public final class OutStation {
    private static final int BINARY = 0;
    private static final int ANALOG = 1;
    private static final int OUTPUT = 2;
    private static final int POINTS = 8;
    private static final int OUTPUTS = 4;
    private static final int MOST_EVENTS = 6;

    private static final int ADDRESS = 10;
    private static final int FRAME_HEAD = 10;
    private static final int SUM_BYTES = 2;
    private static final int BLOCK = 16;
    private static final int LONGEST_FRAME = 56;
    private static final int FRAME_BROKEN = 0;
    private static final int FRAME_BEGUN = 1;
    private static final int FRAME_WHOLE = 2;

    private static final int PART_LAST = 128;
    private static final int PART_FIRST = 64;
    private static final int PART_NUMBERS = 64;
    private static final int PART_BYTES = 39;
    private static final int LONGEST_REQUEST = 60;

    private static final int FRAGMENT_MARK = 192;
    private static final int NUMBERS = 16;
    private static final int REQUEST_HEAD = 2;
    private static final int ANSWER_HEAD = 4;
    private static final int LONGEST_ANSWER = 62;

    private static final int CONFIRM = 0;
    private static final int READ = 1;
    private static final int WRITE = 2;
    private static final int SELECT = 3;
    private static final int OPERATE = 4;
    private static final int DIRECT = 5;

    private static final int SIGN_NONE = 0;
    private static final int SIGN_FUNCTION = 1;
    private static final int SIGN_OBJECT = 2;
    private static final int SIGN_PARAMETER = 4;
    private static final int SIGN_OVERFLOW = 8;

    private static final int LONGEST_TOLD = 10;
    private static final int SENT_KEPT = 256;

    private final Field field;
    private final Line line;
    private final Parts parts;
    private final Requests requests;
    private final Sending sending;
    private final Questions questions;
    private final Sum asked;

    public OutStation() {
        field = new Field();
        line = new Line();
        parts = new Parts();
        requests = new Requests();
        sending = new Sending();
        questions = new Questions();
        asked = new Sum();
    }

    public void change(int kind, int point, int value) throws IllegalArgumentException {
        if (kind == OUTPUT || !field.has(kind, point)) {
            throw new IllegalArgumentException("no such point");
        }
        if (kind == BINARY && value != 0 && value != 1) {
            throw new IllegalArgumentException("no value of a binary point");
        }
        field.bring(kind, point, value);
    }

    public int point(int kind, int point) throws IllegalArgumentException {
        if (!field.has(kind, point)) {
            throw new IllegalArgumentException("no such point");
        }
        return field.valueOf(kind, point);
    }

    public int events(int kind) throws IllegalArgumentException {
        if (kind != BINARY && kind != ANALOG) {
            throw new IllegalArgumentException("no such kind");
        }
        return field.eventsOf(kind).size();
    }

    public int hear(long bytes, int n) throws IllegalArgumentException {
        if (n < 1 || n > 8) {
            throw new IllegalArgumentException("not 1 to 8 bytes");
        }
        for (int i = 0; i < n; i++) {
            line.bring(byteOf(bytes, n, i));
            // What a broken frame leaves may hold several whole ones.
            for (int frames = 0; frames < LONGEST_FRAME && line.findFrame(); frames++) {
                if (line.isForThis() && parts.take(line) && requests.handle(parts.fragment(), field)) {
                    sending.sendAnswer(requests.answer(), parts.from());
                }
                line.dropFrame();
            }
        }
        return line.length();
    }

    public void pass(int ticks) throws IllegalArgumentException {
        if (ticks < 1 || ticks > 100) {
            throw new IllegalArgumentException("not 1 to 100 ticks");
        }
        requests.letPass(ticks);
    }

    public int sent(int k) throws IndexOutOfBoundsException {
        if (k == -1) {
            return sending.total();
        }
        if (!sending.keeps(k)) {
            throw new IndexOutOfBoundsException("no such byte was sent");
        }
        return sending.latest(k);
    }

    public int sum(long bytes, int n) throws IllegalArgumentException {
        if (n < 0 || n > 8) {
            throw new IllegalArgumentException("not 0 to 8 bytes");
        }
        asked.clear();
        for (int i = 0; i < n; i++) {
            asked.add(byteOf(bytes, n, i));
        }
        return asked.value();
    }

    public int ask(long bytes, int n) throws IllegalArgumentException {
        if (n < 1 || n > 8) {
            throw new IllegalArgumentException("not 1 to 8 bytes");
        }
        questions.take(bytes, n, field);
        return questions.latest().length();
    }

    public int told(int k) throws IndexOutOfBoundsException {
        if (k < 0 || k >= questions.latest().length()) {
            throw new IndexOutOfBoundsException("no such byte was told");
        }
        return questions.latest().at(k);
    }

    /** Byte i, from the first one on, of the lowest n bytes. */
    private static int byteOf(long bytes, int n, int i) {
        return (int) (bytes >>> (8 * (n - 1 - i))) & 255;
    }

    /** A row of bytes of a length that has a bound; what is beyond it is left out. */
    private static final class Bytes {
        private final int[] cells;
        private int count;

        Bytes(int most) {
            cells = new int[most];
        }

        int length() {
            return count;
        }

        int room() {
            return cells.length - count;
        }

        void clear() {
            count = 0;
        }

        void add(int b) {
            if (count < cells.length) {
                cells[count] = b & 255;
                count++;
            }
        }

        /** A point's value as an answer has it. */
        void addValue(int kind, int value) {
            if (kind == BINARY) {
                add(1 + 128 * value);
                return;
            }
            add(1);
            for (int shift = 0; shift < 32; shift += 8) {
                add(value >>> shift);
            }
        }

        int at(int i) {
            if (i < 0 || i >= count) {
                return 0;
            }
            return cells[i];
        }

        void replace(int i, int b) {
            if (i >= 0 && i < count) {
                cells[i] = b & 255;
            }
        }

        void dropFirst(int n) {
            int gone = Math.min(Math.max(n, 0), count);
            System.arraycopy(cells, gone, cells, 0, count - gone);
            count -= gone;
        }
    }

    /** The sum of bytes that come one after the other. */
    private static final class Sum {
        private static final int DIVISOR = 42684;
        private int c;

        void clear() {
            c = 0;
        }

        void add(int b) {
            c ^= b & 255;
            for (int i = 0; i < 8; i++) {
                boolean odd = (c & 1) != 0;
                c >>>= 1;
                if (odd) {
                    c ^= DIVISOR;
                }
            }
        }

        int value() {
            return 65535 - c;
        }
    }

    /** The events of one kind; the first ones of them may stand in the last answer. */
    private static final class EventRow {
        private final int[] points = new int[MOST_EVENTS];
        private final int[] values = new int[MOST_EVENTS];
        private int count;
        private int answered;

        int size() {
            return count;
        }

        int answered() {
            return answered;
        }

        int pointAt(int i) {
            return i >= 0 && i < count ? points[i] : 0;
        }

        int valueAt(int i) {
            return i >= 0 && i < count ? values[i] : 0;
        }

        boolean isFull() {
            return count == MOST_EVENTS;
        }

        /** When the row is full, its first event goes. */
        void append(int point, int value) {
            if (isFull()) {
                dropFirst(1);
            }
            if (count < MOST_EVENTS) {
                points[count] = point;
                values[count] = value;
                count++;
            }
        }

        void markAnswered(int n) {
            answered = Math.min(answered + n, count);
        }

        void forgetAnswered() {
            answered = 0;
        }

        void dropAnswered() {
            dropFirst(answered);
        }

        private void dropFirst(int n) {
            int gone = Math.min(Math.max(n, 0), count);
            System.arraycopy(points, gone, points, 0, count - gone);
            System.arraycopy(values, gone, values, 0, count - gone);
            count -= gone;
            answered = Math.max(answered - gone, 0);
        }
    }

    /** The points, their events, the outputs, and what the signs tell of them. */
    private static final class Field {
        private final int[] binary = new int[POINTS];
        private final int[] analog = new int[POINTS];
        private final int[] outputs = new int[OUTPUTS];
        private final EventRow binaryEvents = new EventRow();
        private final EventRow analogEvents = new EventRow();
        private boolean overflow = false;
        private boolean restart = true;

        boolean has(int kind, int point) {
            return kind >= BINARY && kind <= OUTPUT && point >= 0 && point < (kind == OUTPUT ? OUTPUTS : POINTS);
        }

        int valueOf(int kind, int point) {
            return has(kind, point) ? valuesOf(kind)[point] : 0;
        }

        void bring(int kind, int point, int value) {
            if (!has(kind, point) || valuesOf(kind)[point] == value) {
                return;
            }
            valuesOf(kind)[point] = value;
            EventRow row = eventsOf(kind);
            if (row.isFull()) {
                overflow = true;
            }
            row.append(point, value);
        }

        void setOutput(int x, int value) {
            if (has(OUTPUT, x)) {
                outputs[x] = value;
            }
        }

        EventRow eventsOf(int kind) {
            return kind == BINARY ? binaryEvents : analogEvents;
        }

        void forgetAnswered() {
            binaryEvents.forgetAnswered();
            analogEvents.forgetAnswered();
        }

        boolean anyAnswered() {
            return binaryEvents.answered() > 0 || analogEvents.answered() > 0;
        }

        void confirmAnswered() {
            binaryEvents.dropAnswered();
            analogEvents.dropAnswered();
            overflow = false;
        }

        void endRestart() {
            restart = false;
        }

        int firstSigns() {
            return (binaryEvents.size() > 0 ? 2 : 0) + (analogEvents.size() > 0 ? 4 : 0) + (restart ? 128 : 0);
        }

        int overflowSign() {
            return overflow ? SIGN_OVERFLOW : SIGN_NONE;
        }

        private int[] valuesOf(int kind) {
            if (kind == BINARY) {
                return binary;
            }
            return kind == ANALOG ? analog : outputs;
        }
    }

    /** What the master's line brought and is no whole frame yet. */
    private static final class Line {
        private static final int SHORTEST_N = 6;
        private static final int LONGEST_N = 45;
        private static final int N_BEFORE_PAYLOAD = 5;
        private static final int FROM_MASTER = 196;

        private final Bytes row = new Bytes(LONGEST_FRAME);
        private final Sum sum = new Sum();
        /** How many first bytes of the row have right sums: kept so that no sum is reckoned twice. */
        private int checked = 0;

        int length() {
            return row.length();
        }

        void bring(int b) {
            row.add(b);
        }

        /** Lets first bytes go until a frame can begin there; whether it is a whole one. */
        boolean findFrame() {
            for (int left = row.length(); left > 0; left--) {
                int state = state();
                if (state != FRAME_BROKEN) {
                    return state == FRAME_WHOLE;
                }
                row.dropFirst(1);
                checked = 0;
            }
            return false;
        }

        private int state() {
            if (checked == 0) {
                if (beginsOtherwise()) {
                    return FRAME_BROKEN;
                }
                if (row.length() < FRAME_HEAD) {
                    return FRAME_BEGUN;
                }
                if (!sumIsRight(0, FRAME_HEAD - SUM_BYTES)) {
                    return FRAME_BROKEN;
                }
                checked = FRAME_HEAD;
            }
            return stateOfBlocks();
        }

        boolean isForThis() {
            return row.at(3) == FROM_MASTER && row.at(4) + 256 * row.at(5) == ADDRESS;
        }

        int from() {
            return row.at(6) + 256 * row.at(7);
        }

        int payloadLength() {
            return row.at(2) - N_BEFORE_PAYLOAD;
        }

        int payloadAt(int i) {
            return row.at(FRAME_HEAD + i + i / BLOCK * SUM_BYTES);
        }

        /** Only for a whole frame: all of it is checked then. */
        void dropFrame() {
            row.dropFirst(checked);
            checked = 0;
        }

        private boolean beginsOtherwise() {
            int n = row.at(2);
            return row.length() > 0 && row.at(0) != 5
                || row.length() > 1 && row.at(1) != 100
                || row.length() > 2 && (n < SHORTEST_N || n > LONGEST_N);
        }

        private int stateOfBlocks() {
            int blocksChecked = (checked - FRAME_HEAD) / (BLOCK + SUM_BYTES);
            for (int left = payloadLength() - blocksChecked * BLOCK; left > 0; left -= BLOCK) {
                int size = Math.min(left, BLOCK);
                if (row.length() < checked + size + SUM_BYTES) {
                    return FRAME_BEGUN;
                }
                if (!sumIsRight(checked, size)) {
                    return FRAME_BROKEN;
                }
                checked += size + SUM_BYTES;
            }
            return FRAME_WHOLE;
        }

        private boolean sumIsRight(int start, int size) {
            sum.clear();
            for (int i = start; i < start + size; i++) {
                sum.add(row.at(i));
            }
            return row.at(start + size) + 256 * row.at(start + size + 1) == sum.value();
        }
    }

    /** Makes the fragment of a request out of the parts that frames bring. */
    private static final class Parts {
        private final Bytes fragment = new Bytes(LONGEST_REQUEST);
        private boolean begun = false;
        private int number = 0;
        private int from = 0;

        Bytes fragment() {
            return fragment;
        }

        int from() {
            return from;
        }

        /** Whether the fragment is a request now. */
        boolean take(Line line) {
            int head = line.payloadAt(0);
            if ((head & PART_FIRST) != 0) {
                fragment.clear();
                begun = true;
            } else {
                begun = goesOn(head % PART_NUMBERS, line);
            }
            if (!begun) {
                return false;
            }
            number = head % PART_NUMBERS;
            from = line.from();
            for (int i = 1; i < line.payloadLength(); i++) {
                fragment.add(line.payloadAt(i));
            }
            begun = (head & PART_LAST) == 0;
            return !begun;
        }

        private boolean goesOn(int next, Line line) {
            return begun
                && line.from() == from
                && next == (number + 1) % PART_NUMBERS
                && line.payloadLength() - 1 <= fragment.room();
        }
    }

    /** Carries out requests and makes their answers. */
    private static final class Requests {
        private static final int ASKS_CONFIRM = 32;
        private static final int ANSWER_FUNCTION = 129;

        private final Bytes answer = new Bytes(LONGEST_ANSWER);
        private final Reading reading = new Reading();
        private final Selection selection = new Selection();
        private boolean confirmable = false;
        private int answerNumber = 0;

        Bytes answer() {
            return answer;
        }

        void letPass(int ticks) {
            selection.letPass(ticks);
        }

        /** Whether there is an answer to send. */
        boolean handle(Bytes request, Field field) {
            int number = request.at(0) - FRAGMENT_MARK;
            if (request.length() < REQUEST_HEAD || number < 0 || number >= NUMBERS) {
                return false;
            }
            int function = request.at(1);
            if (function == CONFIRM) {
                confirm(number, field);
                return false;
            }
            field.forgetAnswered();
            if (function != SELECT && function != OPERATE) {
                selection.end();
            }
            beginAnswer();
            int sign = SIGN_FUNCTION;
            if (function == READ) {
                sign = reading.readAll(request, field, answer);
            } else if (function == WRITE) {
                sign = write(request, field);
            } else if (function == SELECT || function == OPERATE || function == DIRECT) {
                sign = command(function, number, request, field);
            }
            completeAnswer(number, sign, field);
            return true;
        }

        private void confirm(int number, Field field) {
            if (confirmable && number == answerNumber) {
                field.confirmAnswered();
                confirmable = false;
            }
        }

        private void beginAnswer() {
            answer.clear();
            for (int i = 0; i < ANSWER_HEAD; i++) {
                answer.add(0);
            }
        }

        /** The head comes last, since it tells how things are behind the request. */
        private void completeAnswer(int number, int sign, Field field) {
            confirmable = field.anyAnswered();
            answerNumber = number;
            answer.replace(0, FRAGMENT_MARK + number + (confirmable ? ASKS_CONFIRM : 0));
            answer.replace(1, ANSWER_FUNCTION);
            answer.replace(2, field.firstSigns());
            answer.replace(3, sign + field.overflowSign());
        }

        private int write(Bytes request, Field field) {
            boolean right = request.length() == 8
                && request.at(2) == 80 && request.at(3) == 1 && request.at(4) == 0
                && request.at(5) == 7 && request.at(6) == 7 && request.at(7) == 0;
            if (!right) {
                return SIGN_PARAMETER;
            }
            field.endRestart();
            return SIGN_NONE;
        }

        private int command(int function, int number, Bytes request, Field field) {
            boolean right = request.length() == 8
                && request.at(2) == 12 && request.at(3) == 1
                && request.at(4) == 23 && request.at(5) == 1;
            if (!right) {
                selection.end();
                return SIGN_PARAMETER;
            }
            int x = request.at(6);
            int v = request.at(7);
            int status = selection.statusOf(function, number, x, v);
            selection.end();
            if (status == Selection.DONE && function == SELECT) {
                selection.begin(number, x, v);
            } else if (status == Selection.DONE) {
                field.setOutput(x, v == Selection.ON ? 1 : 0);
            }
            for (int i = REQUEST_HEAD; i < request.length(); i++) {
                answer.add(request.at(i));
            }
            answer.add(status);
            return SIGN_NONE;
        }
    }

    /** The output and the value that wait to be operated. */
    private static final class Selection {
        static final int ON = 3;
        static final int OFF = 4;
        static final int DONE = 0;
        private static final int TOO_LATE = 1;
        private static final int NOT_SELECTED = 2;
        private static final int NO_VALUE = 3;
        private static final int NO_OUTPUT = 4;
        private static final int MOST_TICKS = 10;

        private boolean there = false;
        private int number = 0;
        private int output = 0;
        private int value = 0;
        private int age = 0;

        void begin(int byNumber, int x, int v) {
            there = true;
            number = byNumber;
            output = x;
            value = v;
            age = 0;
        }

        void end() {
            there = false;
        }

        void letPass(int ticks) {
            // Beyond the limit it is of no matter how old it is, and so the age can't run over.
            age = Math.min(age + ticks, MOST_TICKS + 1);
        }

        int statusOf(int function, int byNumber, int x, int v) {
            if (x >= OUTPUTS) {
                return NO_OUTPUT;
            }
            if (v != ON && v != OFF) {
                return NO_VALUE;
            }
            if (function != OPERATE) {
                return DONE;
            }
            if (!there || output != x || value != v || (number + 1) % NUMBERS != byNumber) {
                return NOT_SELECTED;
            }
            return age > MOST_TICKS ? TOO_LATE : DONE;
        }
    }

    /** Answers the headers of a READ. */
    private static final class Reading {
        private static final int RANGE = 0;
        private static final int ALL = 6;
        private static final int AT_MOST = 7;
        private static final int HEADER = 3;
        private static final int GIVEN_HEAD = 5;
        private static final int EVENTS_HEAD = 4;

        /** The sign of the first header that gives nothing; those behind it are not looked at. */
        int readAll(Bytes request, Field field, Bytes answer) {
            int at = REQUEST_HEAD;
            for (int headers = 0; headers < LONGEST_REQUEST && at < request.length(); headers++) {
                if (at + HEADER > request.length()) {
                    return SIGN_PARAMETER;
                }
                int sign = readHeader(request, at, field, answer);
                if (sign != SIGN_NONE) {
                    return sign;
                }
                at += HEADER + bytesBehind(request.at(at + 2));
            }
            return SIGN_NONE;
        }

        private int readHeader(Bytes request, int at, Field field, Bytes answer) {
            int group = request.at(at);
            int variation = request.at(at + 1);
            int qualifier = request.at(at + 2);
            boolean whole = at + HEADER + bytesBehind(qualifier) <= request.length();
            int kind = kindOfPoints(group, variation);
            if (kind >= 0 && (qualifier == RANGE || qualifier == ALL)) {
                int first = qualifier == ALL ? 0 : request.at(at + 3);
                int last = qualifier == ALL ? POINTS - 1 : request.at(at + 4);
                return whole ? givePoints(kind, first, last, field, answer) : SIGN_PARAMETER;
            }
            if (group == 60 && variation == 1 && qualifier == ALL) {
                // A header without room gives nothing, so its first half must not go in alone.
                if (lengthOfPoints(BINARY, POINTS) + lengthOfPoints(ANALOG, POINTS) > answer.room()) {
                    return SIGN_PARAMETER;
                }
                givePoints(BINARY, 0, POINTS - 1, field, answer);
                return givePoints(ANALOG, 0, POINTS - 1, field, answer);
            }
            kind = kindOfEvents(group, variation);
            if (kind >= 0 && (qualifier == AT_MOST || qualifier == ALL)) {
                int most = qualifier == ALL ? MOST_EVENTS : request.at(at + 3);
                return whole ? giveEvents(kind, most, field, answer) : SIGN_PARAMETER;
            }
            return SIGN_OBJECT;
        }

        private static int bytesBehind(int qualifier) {
            if (qualifier == RANGE) {
                return 2;
            }
            return qualifier == AT_MOST ? 1 : 0;
        }

        private static int kindOfPoints(int group, int variation) {
            if (group == 1 && variation == 2) {
                return BINARY;
            }
            return group == 30 && variation == 1 ? ANALOG : -1;
        }

        private static int kindOfEvents(int group, int variation) {
            if (group != 60) {
                return -1;
            }
            if (variation == 2) {
                return BINARY;
            }
            return variation == 3 ? ANALOG : -1;
        }

        private static int lengthOfPoints(int kind, int n) {
            return GIVEN_HEAD + n * (kind == BINARY ? 1 : 5);
        }

        private int givePoints(int kind, int first, int last, Field field, Bytes answer) {
            if (last < first || last >= POINTS || lengthOfPoints(kind, last - first + 1) > answer.room()) {
                return SIGN_PARAMETER;
            }
            answer.add(kind == BINARY ? 1 : 30);
            answer.add(kind == BINARY ? 2 : 1);
            answer.add(RANGE);
            answer.add(first);
            answer.add(last);
            for (int p = first; p <= last; p++) {
                answer.addValue(kind, field.valueOf(kind, p));
            }
            return SIGN_NONE;
        }

        private int giveEvents(int kind, int most, Field field, Bytes answer) {
            EventRow row = field.eventsOf(kind);
            int start = row.answered();
            int bytesOfOne = kind == BINARY ? 2 : 6;
            int fit = Math.max(answer.room() - EVENTS_HEAD, 0) / bytesOfOne;
            int n = Math.min(Math.min(most, row.size() - start), fit);
            if (n <= 0) {
                return SIGN_NONE;
            }
            answer.add(kind == BINARY ? 2 : 32);
            answer.add(1);
            answer.add(23);
            answer.add(n);
            for (int i = start; i < start + n; i++) {
                answer.add(row.pointAt(i));
                answer.addValue(kind, row.valueAt(i));
            }
            row.markAnswered(n);
            return SIGN_NONE;
        }
    }

    /** What was sent on the line, and the frames that answers go in. */
    private static final class Sending {
        private static final int TO_MASTER = 68;
        private static final int N_WITHOUT_PAYLOAD = 5;

        private final int[] kept = new int[SENT_KEPT];
        private final Sum sum = new Sum();
        private int total = 0;
        private int next = 0;
        private int partNumber = 0;

        int total() {
            return total;
        }

        boolean keeps(int k) {
            return k >= 0 && k < SENT_KEPT && k < total;
        }

        int latest(int k) {
            return keeps(k) ? kept[(next + SENT_KEPT - 1 - k) % SENT_KEPT] : 0;
        }

        void sendAnswer(Bytes answer, int to) {
            for (int at = 0; at < answer.length(); at += PART_BYTES) {
                int size = Math.min(answer.length() - at, PART_BYTES);
                sendHead(1 + size, to);
                sendPart(answer, at, size);
            }
        }

        private void sendHead(int payload, int to) {
            sum.clear();
            sendSummed(5);
            sendSummed(100);
            sendSummed(N_WITHOUT_PAYLOAD + payload);
            sendSummed(TO_MASTER);
            sendSummed(to & 255);
            sendSummed(to >> 8);
            sendSummed(ADDRESS);
            sendSummed(0);
            sendSum();
        }

        private void sendPart(Bytes answer, int at, int size) {
            boolean last = at + size == answer.length();
            sendSummed((at == 0 ? PART_FIRST : 0) + (last ? PART_LAST : 0) + partNumber);
            partNumber = (partNumber + 1) % PART_NUMBERS;
            // The part's head is the payload's byte 0: byte i of the part is its byte i + 1.
            for (int i = 0; i < size; i++) {
                if ((i + 1) % BLOCK == 0) {
                    sendSum();
                }
                sendSummed(answer.at(at + i));
            }
            sendSum();
        }

        private void sendSummed(int b) {
            sum.add(b);
            send(b);
        }

        private void sendSum() {
            int value = sum.value();
            send(value & 255);
            send(value >> 8);
            sum.clear();
        }

        private void send(int b) {
            if (next >= 0 && next < SENT_KEPT) {
                kept[next] = b & 255;
            }
            next = (next + 1) % SENT_KEPT;
            total++;
        }
    }

    /** The other master's questions, and the latest answer to one. */
    private static final class Questions {
        private static final int ASK_BINARY = 1;
        private static final int ASK_ANALOG = 4;
        private static final int QUESTION_BYTES = 5;
        private static final int MOST_BITS = 8;
        private static final int MOST_WORDS = 4;
        private static final int NO_FUNCTION = 1;
        private static final int NOT_THERE = 2;
        private static final int WRONG_NUMBER = 3;

        private final Bytes told = new Bytes(LONGEST_TOLD);

        Bytes latest() {
            return told;
        }

        void take(long bytes, int n, Field field) {
            told.clear();
            int function = byteOf(bytes, n, 0);
            if (function != ASK_BINARY && function != ASK_ANALOG) {
                refuse(function, NO_FUNCTION);
            } else if (n != QUESTION_BYTES) {
                refuse(function, WRONG_NUMBER);
            } else {
                int first = (int) (bytes >>> 16) & 65535;
                int many = (int) bytes & 65535;
                answer(function, first, many, field);
            }
        }

        private void refuse(int function, int why) {
            told.add(function % 128 + 128);
            told.add(why);
        }

        private void answer(int function, int first, int many, Field field) {
            int most = function == ASK_BINARY ? MOST_BITS : MOST_WORDS;
            int there = function == ASK_BINARY ? POINTS : 2 * POINTS;
            if (many < 1 || many > most) {
                refuse(function, WRONG_NUMBER);
            } else if (first + many > there) {
                refuse(function, NOT_THERE);
            } else if (function == ASK_BINARY) {
                tellBits(first, many, field);
            } else {
                tellWords(first, many, field);
            }
        }

        private void tellBits(int first, int many, Field field) {
            int bits = 0;
            for (int i = 0; i < many; i++) {
                bits |= field.valueOf(BINARY, first + i) << i;
            }
            told.add(ASK_BINARY);
            told.add(1);
            told.add(bits);
        }

        private void tellWords(int first, int many, Field field) {
            told.add(ASK_ANALOG);
            told.add(2 * many);
            for (int w = first; w < first + many; w++) {
                int value = field.valueOf(ANALOG, w / 2);
                int word = w % 2 == 0 ? value >>> 16 : value & 65535;
                told.add(word >> 8);
                told.add(word);
            }
        }
    }
}
