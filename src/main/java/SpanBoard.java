/**
 * Spans of set-points that are kept by nine recorders, of which two may lie: each has one writer,
 * whose write is finished when seven have receipted it; readers believe what at least three of
 * seven tell alike.
 */
public final class SpanBoard {
    public static final int NONE = -1;

    private static final int POINTS = 4;
    private static final int RECORDERS = 9;
    private static final int READERS = 3;
    private static final int HALLS = 3;

    private static final int MOST_ROUNDS = 9;
    private static final int MOST_LIARS = 2;
    private static final int MOST_LETTERS = 300;
    private static final int ENOUGH_RECORDERS = 7;
    private static final int ENOUGH_ALIKE = 3;

    private static final int STORE = 1;
    private static final int RECEIPT = 2;
    private static final int ASK = 3;
    private static final int TELL = 4;

    private static final int NOTHING_YET = 0;
    private static final int READING = 1;
    private static final int PAIR_ANSWERED = 2;
    private static final int BUSY = 3;

    private final int rounds;
    private final Recorder[] recorders;
    private final Writer[] writers;
    private final Reader[] readers;
    private final Post post;
    private final int[] hallOfPoint;
    private final Pair[] latestAnswers;
    private final boolean[] hasValue;
    private final int[] values;

    public SpanBoard(int rounds) {
        this.rounds = Math.max(1, Math.min(MOST_ROUNDS, rounds));
        Pair unwritten = new Pair(0, 0, 0);
        recorders = new Recorder[RECORDERS];
        for (int r = 0; r < RECORDERS; r++) {
            recorders[r] = new Recorder(unwritten);
        }
        writers = new Writer[POINTS];
        for (int p = 0; p < POINTS; p++) {
            writers[p] = new Writer(unwritten);
        }
        readers = new Reader[READERS];
        for (int r = 0; r < READERS; r++) {
            readers[r] = new Reader(unwritten);
        }
        post = new Post();
        hallOfPoint = new int[POINTS];
        latestAnswers = new Pair[POINTS];
        hasValue = new boolean[HALLS];
        values = new int[HALLS];
    }

    public boolean hall(int point, int hall) {
        if (!isPoint(point) || !isHall(hall)) {
            return false;
        }
        hallOfPoint[point] = hall;
        return true;
    }

    public int write(int point, int low, int high) {
        if (!isPoint(point) || low > high || writers[point].open) {
            return NONE;
        }
        writers[point].begin(low, high);
        sendStores(point);
        return writers[point].latest.number;
    }

    public int read(int reader, int point) {
        if (!isReader(reader) || !isPoint(point) || readers[reader].isReading()) {
            return NONE;
        }
        readers[reader].begin(point);
        sendAsks(reader);
        return readers[reader].question;
    }

    public int storeAgain(int point) {
        if (!isPoint(point) || !writers[point].open) {
            return NONE;
        }
        return sendStores(point);
    }

    public int askAgain(int reader) {
        if (!isReader(reader) || !readers[reader].isReading()) {
            return NONE;
        }
        return sendAsks(reader);
    }

    public int letters() {
        return post.count;
    }

    public int letter(int i, int what) {
        if (!post.has(i)) {
            return NONE;
        }
        Letter found = post.row[i];
        switch (what) {
            case 0:
                return found.kind;
            case 1:
                return found.recorder;
            case 2:
                return found.point;
            case 3:
                return found.reader;
            case 4:
                return found.number;
            default:
                return NONE;
        }
    }

    public boolean deliver(int i) {
        if (!post.has(i)) {
            return false;
        }
        bring(post.take(i));
        return true;
    }

    public int deliverAll(int n) {
        int brought = 0;
        while (brought < n && post.count > 0) {
            bring(post.take(0));
            brought++;
        }
        return brought;
    }

    public boolean lose(int i) {
        if (!post.has(i)) {
            return false;
        }
        post.take(i);
        return true;
    }

    public boolean twin(int i) {
        if (!post.has(i) || post.isFull()) {
            return false;
        }
        Letter model = post.row[i];
        post.send(model.kind, model.recorder, model.point, model.reader, model.number, model.pair);
        return true;
    }

    public boolean lie(int recorder) {
        if (!isRecorder(recorder) || recorders[recorder].liar || countLiars() >= MOST_LIARS) {
            return false;
        }
        recorders[recorder].liar = true;
        return true;
    }

    public boolean tell(int recorder, int reader, int number, int low, int high) {
        if (!canLie(recorder) || !isReader(reader) || !readers[reader].isReading()) {
            return false;
        }
        if (number < 0 || low > high) {
            return false;
        }
        Reader asker = readers[reader];
        post.send(TELL, recorder, asker.point, reader, asker.question, new Pair(number, low, high));
        return true;
    }

    public boolean receipt(int recorder, int point) {
        if (!canLie(recorder) || !isPoint(point) || writers[point].latest.number == 0) {
            return false;
        }
        post.send(RECEIPT, recorder, point, NONE, writers[point].latest.number, null);
        return true;
    }

    public boolean crash(int recorder) {
        if (!isRecorder(recorder) || !recorders[recorder].up) {
            return false;
        }
        recorders[recorder].up = false;
        return true;
    }

    public boolean restart(int recorder) {
        if (!isRecorder(recorder) || recorders[recorder].up) {
            return false;
        }
        recorders[recorder].up = true;
        return true;
    }

    public boolean forget(int point) {
        if (!isPoint(point)) {
            return false;
        }
        writers[point].clearReceipts();
        return true;
    }

    public int outcome(int reader) {
        return isReader(reader) ? readers[reader].state : NONE;
    }

    public int answered(int reader, int field) {
        if (!isReader(reader) || readers[reader].answer == null) {
            return NONE;
        }
        if (field == 0) {
            return readers[reader].answeredPoint;
        }
        return readers[reader].answer.part(field - 1);
    }

    public int reader(int reader, int what) {
        if (!isReader(reader)) {
            return NONE;
        }
        Reader asked = readers[reader];
        switch (what) {
            case 0:
                return asked.question;
            case 1:
                return asked.isReading() ? asked.round : 0;
            case 2:
                return asked.isReading() ? asked.toldCount : 0;
            default:
                return NONE;
        }
    }

    public int writer(int point, int what) {
        if (!isPoint(point)) {
            return NONE;
        }
        Writer asked = writers[point];
        switch (what) {
            case 0:
                return asked.latest.number;
            case 1:
                return asked.open ? 1 : 0;
            case 2:
                return asked.receiptCount;
            case 3:
                return asked.finished;
            default:
                return NONE;
        }
    }

    public int held(int recorder, int point, int field) {
        if (!isRecorder(recorder) || !isPoint(point)) {
            return NONE;
        }
        return recorders[recorder].pairs[point].part(field);
    }

    public boolean measured(int hall, int value) {
        if (!isHall(hall)) {
            return false;
        }
        hasValue[hall] = true;
        values[hall] = value;
        return true;
    }

    public int alarm(int i) {
        int before = 0;
        for (int h = 0; h < HALLS; h++) {
            if (isAlarmed(h)) {
                if (before == i) {
                    return h;
                }
                before++;
            }
        }
        return NONE;
    }

    private static boolean isPoint(int point) {
        return point >= 0 && point < POINTS;
    }

    private static boolean isRecorder(int recorder) {
        return recorder >= 0 && recorder < RECORDERS;
    }

    private static boolean isReader(int reader) {
        return reader >= 0 && reader < READERS;
    }

    private static boolean isHall(int hall) {
        return hall >= 0 && hall < HALLS;
    }

    private boolean canLie(int recorder) {
        return isRecorder(recorder) && recorders[recorder].liar && recorders[recorder].up;
    }

    private int countLiars() {
        int liars = 0;
        for (int r = 0; r < RECORDERS; r++) {
            if (recorders[r].liar) {
                liars++;
            }
        }
        return liars;
    }

    private boolean isAlarmed(int hall) {
        if (!hasValue[hall]) {
            return false;
        }
        for (int p = 0; p < POINTS; p++) {
            Pair latest = latestAnswers[p];
            if (hallOfPoint[p] == hall && latest != null && !latest.spans(values[hall])) {
                return true;
            }
        }
        return false;
    }

    // Serves a new write too: then there is no receipt, so that all recorders get it.
    private int sendStores(int point) {
        Writer sender = writers[point];
        int sent = 0;
        for (int r = 0; r < RECORDERS; r++) {
            if (!sender.receipts[r]) {
                post.send(STORE, r, point, NONE, sender.latest.number, sender.latest);
                sent++;
            }
        }
        return sent;
    }

    // Serves a new question too: then nothing was told, so that all recorders get it.
    private int sendAsks(int reader) {
        Reader sender = readers[reader];
        int sent = 0;
        for (int r = 0; r < RECORDERS; r++) {
            if (sender.told[r] == null) {
                post.send(ASK, r, sender.point, reader, sender.question, null);
                sent++;
            }
        }
        return sent;
    }

    // The letter's own parts are handed on, never the letter: the post uses it again for what is
    // sent meanwhile.
    private void bring(Letter come) {
        switch (come.kind) {
            case STORE:
                bringStore(come.recorder, come.point, come.number, come.pair);
                break;
            case RECEIPT:
                writers[come.point].hear(come.recorder, come.number);
                break;
            case ASK:
                bringAsk(come.recorder, come.point, come.reader, come.number);
                break;
            default:
                bringTell(come.recorder, come.reader, come.number, come.pair);
                break;
        }
    }

    private void bringStore(int recorder, int point, int number, Pair pair) {
        if (!recorders[recorder].heeds()) {
            return;
        }
        if (number > recorders[recorder].pairs[point].number) {
            recorders[recorder].pairs[point] = pair;
        }
        post.send(RECEIPT, recorder, point, NONE, number, null);
    }

    private void bringAsk(int recorder, int point, int reader, int question) {
        if (recorders[recorder].heeds()) {
            Pair kept = recorders[recorder].pairs[point];
            post.send(TELL, recorder, point, reader, question, kept);
        }
    }

    private void bringTell(int recorder, int reader, int question, Pair pair) {
        Reader asker = readers[reader];
        asker.hear(recorder, question, pair);
        if (!asker.isReading() || asker.toldCount < ENOUGH_RECORDERS) {
            return;
        }
        Pair believed = asker.findBelieved();
        if (believed != null) {
            asker.settle(believed);
            latestAnswers[asker.point] = asker.answer;
        } else if (asker.round >= rounds) {
            asker.state = BUSY;
        } else {
            asker.beginRound(asker.round + 1);
            sendAsks(reader);
        }
    }

    /** Never changed once made, so that recorders, letters and readers can share it. */
    private static final class Pair {
        final int number;
        final int low;
        final int high;

        Pair(int number, int low, int high) {
            this.number = number;
            this.low = low;
            this.high = high;
        }

        int part(int field) {
            switch (field) {
                case 0:
                    return number;
                case 1:
                    return low;
                case 2:
                    return high;
                default:
                    return NONE;
            }
        }

        boolean spans(int value) {
            return low <= value && value <= high;
        }

        boolean isLike(Pair other) {
            return number == other.number && low == other.low && high == other.high;
        }

        boolean isPreferredTo(Pair other) {
            if (number != other.number) {
                return number > other.number;
            }
            return low != other.low ? low < other.low : high < other.high;
        }
    }

    private static final class Letter {
        int kind;
        int recorder;
        int point;
        int reader;
        int number;
        Pair pair;
    }

    private static final class Post {
        final Letter[] row = new Letter[MOST_LETTERS];
        int count;

        Post() {
            for (int i = 0; i < MOST_LETTERS; i++) {
                row[i] = new Letter();
            }
        }

        boolean has(int place) {
            return place >= 0 && place < count;
        }

        boolean isFull() {
            return count >= MOST_LETTERS;
        }

        void send(int kind, int recorder, int point, int reader, int number, Pair pair) {
            if (isFull()) {
                return;
            }
            Letter last = row[count];
            last.kind = kind;
            last.recorder = recorder;
            last.point = point;
            last.reader = reader;
            last.number = number;
            last.pair = pair;
            count++;
        }

        // What was taken goes behind the others, where the next letter that is sent uses it again.
        Letter take(int place) {
            Letter taken = row[place];
            count--;
            for (int i = place; i < count; i++) {
                row[i] = row[i + 1];
            }
            row[count] = taken;
            return taken;
        }
    }

    private static final class Recorder {
        final Pair[] pairs = new Pair[POINTS];
        boolean up = true;
        boolean liar;

        Recorder(Pair unwritten) {
            for (int p = 0; p < POINTS; p++) {
                pairs[p] = unwritten;
            }
        }

        boolean heeds() {
            return up && !liar;
        }
    }

    private static final class Writer {
        final boolean[] receipts = new boolean[RECORDERS];
        int receiptCount;
        Pair latest;
        boolean open;
        int finished;

        Writer(Pair unwritten) {
            latest = unwritten;
        }

        void begin(int low, int high) {
            latest = new Pair(latest.number + 1, low, high);
            open = true;
            clearReceipts();
        }

        void clearReceipts() {
            for (int r = 0; r < RECORDERS; r++) {
                receipts[r] = false;
            }
            receiptCount = 0;
        }

        void hear(int recorder, int number) {
            if (!open || number != latest.number || receipts[recorder]) {
                return;
            }
            receipts[recorder] = true;
            receiptCount++;
            if (receiptCount >= ENOUGH_RECORDERS) {
                open = false;
                finished = number;
            }
        }
    }

    private static final class Reader {
        final Pair[] told = new Pair[RECORDERS];
        final Pair[] remembered = new Pair[POINTS];
        int toldCount;
        int state = NOTHING_YET;
        int question;
        int round;
        int point;
        int answeredPoint;
        Pair answer;

        Reader(Pair unwritten) {
            for (int p = 0; p < POINTS; p++) {
                remembered[p] = unwritten;
            }
        }

        boolean isReading() {
            return state == READING;
        }

        void begin(int chosen) {
            state = READING;
            point = chosen;
            beginRound(1);
        }

        void beginRound(int next) {
            round = next;
            question++;
            toldCount = 0;
            for (int r = 0; r < RECORDERS; r++) {
                told[r] = null;
            }
        }

        void hear(int recorder, int asked, Pair pair) {
            if (isReading() && asked == question && told[recorder] == null) {
                told[recorder] = pair;
                toldCount++;
            }
        }

        Pair findBelieved() {
            Pair best = null;
            for (int r = 0; r < RECORDERS; r++) {
                Pair pair = told[r];
                if (pair != null && countAlike(pair) >= ENOUGH_ALIKE
                        && (best == null || pair.isPreferredTo(best))) {
                    best = pair;
                }
            }
            return best;
        }

        private int countAlike(Pair pair) {
            int alike = 0;
            for (int r = 0; r < RECORDERS; r++) {
                if (told[r] != null && told[r].isLike(pair)) {
                    alike++;
                }
            }
            return alike;
        }

        void settle(Pair believed) {
            Pair before = remembered[point];
            answer = believed.number < before.number ? before : believed;
            answeredPoint = point;
            remembered[point] = answer;
            state = PAIR_ANSWERED;
        }
    }
}
